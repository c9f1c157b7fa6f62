theorem dX12_ends_33 : decode cX12_ends 33 = .ok (.ireturn, 1) := by decide +kernel
set_option maxRecDepth 20000 in
theorem ggX12_promised_X12_handAt : GoodIn wsX12_promised wsX12_handAt := goodIn_r _ [7, 8, 9, 45, 46, 47, 48, 49, 50, 51, 52, 53, 54, 55, 56, 57, 58, 59, 60, 61, 62, 63, 64] (by decide +kernel) (by decide +kernel)
set_option maxRecDepth 20000 in
theorem gX12_promised_X12_handAt : GoodIn wsX12_promised (wsV RX12 296 RX12 yX12_handAt wsX12_handAt) := goodIn_app (goodIn_of _ (by decide +kernel)) ggX12_promised_X12_handAt
set_option maxRecDepth 20000 in
theorem ggX12_promised_X12_entryOfKind : GoodIn wsX12_promised wsX12_entryOfKind := goodIn_r _ [13, 14, 15, 16, 17, 6, 18, 1, 19, 65, 66, 67, 68, 69, 70, 71, 72, 73, 74, 75, 76, 77, 78, 79, 80, 81, 82, 45, 46, 47, 48, 49, 50, 51, 52, 53, 54, 55, 56, 57, 58, 59, 60, 61, 62, 63, 64] (by decide +kernel) (by decide +kernel)
set_option maxRecDepth 20000 in
theorem gX12_promised_X12_entryOfKind : GoodIn wsX12_promised (wsV RX12 243 RX12 yX12_entryOfKind wsX12_entryOfKind) := goodIn_app (goodIn_of _ (by decide +kernel)) ggX12_promised_X12_entryOfKind
set_option maxRecDepth 20000 in
theorem ggX12_promised_X12_isStruck : GoodIn wsX12_promised wsX12_isStruck := goodIn_r _ [23, 24, 65, 66, 67, 68, 69, 70, 71, 72, 73, 74, 75, 76, 77, 78, 79, 80, 81, 82] (by decide +kernel) (by decide +kernel)
set_option maxRecDepth 20000 in
theorem gX12_promised_X12_isStruck : GoodIn wsX12_promised (wsV RX12 319 RX12 yX12_isStruck wsX12_isStruck) := goodIn_app (goodIn_of _ (by decide +kernel)) ggX12_promised_X12_isStruck
set_option maxRecDepth 20000 in
theorem ggX12_promised_X12_endOf : GoodIn wsX12_promised wsX12_endOf := goodIn_r _ [28, 1, 14, 29, 15, 16, 17, 6, 18, 19, 45, 46, 47, 48, 49, 50, 51, 52, 53, 54, 55, 56, 57, 58, 59, 60, 61, 62, 63, 64, 65, 66, 67, 68, 69, 70, 71, 72, 73, 74, 75, 76, 77, 78, 79, 80, 81, 82] (by decide +kernel) (by decide +kernel)
set_option maxRecDepth 20000 in
theorem gX12_promised_X12_endOf : GoodIn wsX12_promised (wsV RX12 484 RX12 yX12_endOf wsX12_endOf) := goodIn_app (goodIn_of _ (by decide +kernel)) ggX12_promised_X12_endOf
set_option maxRecDepth 20000 in
theorem ggX12_promised_X12_hangs : GoodIn wsX12_promised wsX12_hangs := goodIn_r _ [33, 2, 34, 3, 4, 5, 6, 7, 8, 9, 35, 36, 37, 38, 39, 40, 41, 42, 43, 44, 65, 66, 67, 68, 69, 70, 71, 72, 73, 74, 75, 76, 77, 78, 79, 80, 81, 82, 83, 84, 85, 86, 87, 88, 45, 46, 47, 48, 49, 50, 51, 52, 53, 54, 55, 56, 57, 58, 59, 60, 61, 62, 63, 64] (by decide +kernel) (by decide +kernel)
set_option maxRecDepth 20000 in
theorem gX12_promised_X12_hangs : GoodIn wsX12_promised (wsV RX12 405 RX12 yX12_hangs wsX12_hangs) := goodIn_app (goodIn_of _ (by decide +kernel)) ggX12_promised_X12_hangs
theorem dX12_promised_0 : decode cX12_promised 0 = .ok (.aload_n 0, 1) := by decide +kernel
theorem dX12_promised_1 : decode cX12_promised 1 = .ok (.iload_n 1, 1) := by decide +kernel
theorem dX12_promised_2 : decode cX12_promised 2 = .ok (.invokevirtual 296, 3) := by decide +kernel
theorem dX12_promised_5 : decode cX12_promised 5 = .ok (.ifnonnull 5, 3) := by decide +kernel
theorem dX12_promised_8 : decode cX12_promised 8 = .ok (.iconst (-1), 1) := by decide +kernel
theorem dX12_promised_9 : decode cX12_promised 9 = .ok (.ireturn, 1) := by decide +kernel
theorem dX12_promised_10 : decode cX12_promised 10 = .ok (.iconst 0, 1) := by decide +kernel
theorem dX12_promised_11 : decode cX12_promised 11 = .ok (.istore_n 2, 1) := by decide +kernel
theorem dX12_promised_12 : decode cX12_promised 12 = .ok (.iconst 0, 1) := by decide +kernel
theorem dX12_promised_13 : decode cX12_promised 13 = .ok (.istore_n 3, 1) := by decide +kernel
theorem dX12_promised_14 : decode cX12_promised 14 = .ok (.iload_n 3, 1) := by decide +kernel
theorem dX12_promised_15 : decode cX12_promised 15 = .ok (.aload_n 0, 1) := by decide +kernel
theorem dX12_promised_16 : decode cX12_promised 16 = .ok (.getfield 203, 3) := by decide +kernel
theorem dX12_promised_19 : decode cX12_promised 19 = .ok (.if_icmp .ge 68, 3) := by decide +kernel
theorem dX12_promised_22 : decode cX12_promised 22 = .ok (.aload_n 0, 1) := by decide +kernel
theorem dX12_promised_23 : decode cX12_promised 23 = .ok (.iload_n 3, 1) := by decide +kernel
theorem dX12_promised_24 : decode cX12_promised 24 = .ok (.iconst 1, 1) := by decide +kernel
theorem dX12_promised_25 : decode cX12_promised 25 = .ok (.invokevirtual 243, 3) := by decide +kernel
theorem dX12_promised_28 : decode cX12_promised 28 = .ok (.astore 4, 2) := by decide +kernel
theorem dX12_promised_30 : decode cX12_promised 30 = .ok (.aload 4, 2) := by decide +kernel
theorem dX12_promised_32 : decode cX12_promised 32 = .ok (.ifnull 49, 3) := by decide +kernel
theorem dX12_promised_35 : decode cX12_promised 35 = .ok (.aload_n 0, 1) := by decide +kernel
theorem dX12_promised_36 : decode cX12_promised 36 = .ok (.aload 4, 2) := by decide +kernel
theorem dX12_promised_38 : decode cX12_promised 38 = .ok (.invokevirtual 319, 3) := by decide +kernel
theorem dX12_promised_41 : decode cX12_promised 41 = .ok (.ifCond .eq 6, 3) := by decide +kernel
theorem dX12_promised_44 : decode cX12_promised 44 = .ok (.goto 37, 3) := by decide +kernel
theorem dX12_promised_47 : decode cX12_promised 47 = .ok (.aload_n 0, 1) := by decide +kernel
theorem dX12_promised_48 : decode cX12_promised 48 = .ok (.aload 4, 2) := by decide +kernel
theorem dX12_promised_50 : decode cX12_promised 50 = .ok (.invokevirtual 484, 3) := by decide +kernel
theorem dX12_promised_53 : decode cX12_promised 53 = .ok (.astore 5, 2) := by decide +kernel
theorem dX12_promised_55 : decode cX12_promised 55 = .ok (.aload 5, 2) := by decide +kernel
theorem dX12_promised_57 : decode cX12_promised 57 = .ok (.ifnull 24, 3) := by decide +kernel
theorem dX12_promised_60 : decode cX12_promised 60 = .ok (.aload 5, 2) := by decide +kernel
theorem dX12_promised_62 : decode cX12_promised 62 = .ok (.getfield 313, 3) := by decide +kernel
theorem dX12_promised_65 : decode cX12_promised 65 = .ok (.iload_n 1, 1) := by decide +kernel
theorem dX12_promised_66 : decode cX12_promised 66 = .ok (.if_icmp .ne 15, 3) := by decide +kernel
theorem dX12_promised_69 : decode cX12_promised 69 = .ok (.aload_n 0, 1) := by decide +kernel
theorem dX12_promised_70 : decode cX12_promised 70 = .ok (.aload 5, 2) := by decide +kernel
theorem dX12_promised_72 : decode cX12_promised 72 = .ok (.invokevirtual 405, 3) := by decide +kernel
theorem dX12_promised_75 : decode cX12_promised 75 = .ok (.ifCond .eq 6, 3) := by decide +kernel
theorem dX12_promised_78 : decode cX12_promised 78 = .ok (.iinc 2 1, 3) := by decide +kernel
theorem dX12_promised_81 : decode cX12_promised 81 = .ok (.iinc 3 1, 3) := by decide +kernel
theorem dX12_promised_84 : decode cX12_promised 84 = .ok (.goto (-70), 3) := by decide +kernel
theorem dX12_promised_87 : decode cX12_promised 87 = .ok (.iload_n 2, 1) := by decide +kernel
theorem dX12_promised_88 : decode cX12_promised 88 = .ok (.ireturn, 1) := by decide +kernel
set_option maxRecDepth 20000 in
theorem ggX12_subscribe_X12_isSubscriber : GoodIn wsX12_subscribe wsX12_isSubscriber := goodIn_r _ [7] (by decide +kernel) (by decide +kernel)
set_option maxRecDepth 20000 in
theorem gX12_subscribe_X12_isSubscriber : GoodIn wsX12_subscribe (wsV RX12 491 RX12 yX12_isSubscriber wsX12_isSubscriber) := goodIn_app (goodIn_of _ (by decide +kernel)) ggX12_subscribe_X12_isSubscriber
set_option maxRecDepth 20000 in
theorem ggX12_subscribe_X12_isVolume : GoodIn wsX12_subscribe wsX12_isVolume := goodIn_r _ [11] (by decide +kernel) (by decide +kernel)
set_option maxRecDepth 20000 in
theorem gX12_subscribe_X12_isVolume : GoodIn wsX12_subscribe (wsV RX12 126 RX12 yX12_isVolume wsX12_isVolume) := goodIn_app (goodIn_of _ (by decide +kernel)) ggX12_subscribe_X12_isVolume
theorem dX12_subscribe_0 : decode cX12_subscribe 0 = .ok (.aload_n 0, 1) := by decide +kernel
theorem dX12_subscribe_1 : decode cX12_subscribe 1 = .ok (.iload_n 1, 1) := by decide +kernel
theorem dX12_subscribe_2 : decode cX12_subscribe 2 = .ok (.invokevirtual 491, 3) := by decide +kernel
theorem dX12_subscribe_5 : decode cX12_subscribe 5 = .ok (.ifCond .eq 33, 3) := by decide +kernel
theorem dX12_subscribe_8 : decode cX12_subscribe 8 = .ok (.aload_n 0, 1) := by decide +kernel
theorem dX12_subscribe_9 : decode cX12_subscribe 9 = .ok (.iload_n 2, 1) := by decide +kernel
theorem dX12_subscribe_10 : decode cX12_subscribe 10 = .ok (.invokevirtual 126, 3) := by decide +kernel
theorem dX12_subscribe_13 : decode cX12_subscribe 13 = .ok (.ifCond .eq 25, 3) := by decide +kernel
theorem dX12_subscribe_16 : decode cX12_subscribe 16 = .ok (.iload_n 3, 1) := by decide +kernel
theorem dX12_subscribe_17 : decode cX12_subscribe 17 = .ok (.iconst 1, 1) := by decide +kernel
theorem dX12_subscribe_18 : decode cX12_subscribe 18 = .ok (.if_icmp .lt 20, 3) := by decide +kernel
theorem dX12_subscribe_21 : decode cX12_subscribe 21 = .ok (.iload_n 3, 1) := by decide +kernel
theorem dX12_subscribe_22 : decode cX12_subscribe 22 = .ok (.sipush 999, 3) := by decide +kernel
theorem dX12_subscribe_25 : decode cX12_subscribe 25 = .ok (.if_icmp .gt 13, 3) := by decide +kernel
theorem dX12_subscribe_28 : decode cX12_subscribe 28 = .ok (.aload_n 0, 1) := by decide +kernel
theorem dX12_subscribe_29 : decode cX12_subscribe 29 = .ok (.getfield 70, 3) := by decide +kernel
theorem dX12_subscribe_32 : decode cX12_subscribe 32 = .ok (.iload_n 1, 1) := by decide +kernel
theorem dX12_subscribe_33 : decode cX12_subscribe 33 = .ok (.iaload, 1) := by decide +kernel
theorem dX12_subscribe_34 : decode cX12_subscribe 34 = .ok (.iconst (-1), 1) := by decide +kernel
theorem dX12_subscribe_35 : decode cX12_subscribe 35 = .ok (.if_icmp .eq 5, 3) := by decide +kernel
theorem dX12_subscribe_38 : decode cX12_subscribe 38 = .ok (.iconst 0, 1) := by decide +kernel
theorem dX12_subscribe_39 : decode cX12_subscribe 39 = .ok (.ireturn, 1) := by decide +kernel
theorem dX12_subscribe_40 : decode cX12_subscribe 40 = .ok (.aload_n 0, 1) := by decide +kernel
theorem dX12_subscribe_41 : decode cX12_subscribe 41 = .ok (.getfield 70, 3) := by decide +kernel
theorem dX12_subscribe_44 : decode cX12_subscribe 44 = .ok (.iload_n 1, 1) := by decide +kernel
theorem dX12_subscribe_45 : decode cX12_subscribe 45 = .ok (.iload_n 2, 1) := by decide +kernel
theorem dX12_subscribe_46 : decode cX12_subscribe 46 = .ok (.iastore, 1) := by decide +kernel
theorem dX12_subscribe_47 : decode cX12_subscribe 47 = .ok (.aload_n 0, 1) := by decide +kernel
theorem dX12_subscribe_48 : decode cX12_subscribe 48 = .ok (.getfield 73, 3) := by decide +kernel
theorem dX12_subscribe_51 : decode cX12_subscribe 51 = .ok (.iload_n 1, 1) := by decide +kernel
theorem dX12_subscribe_52 : decode cX12_subscribe 52 = .ok (.iload_n 3, 1) := by decide +kernel
theorem dX12_subscribe_53 : decode cX12_subscribe 53 = .ok (.iastore, 1) := by decide +kernel
theorem dX12_subscribe_54 : decode cX12_subscribe 54 = .ok (.iconst 1, 1) := by decide +kernel
theorem dX12_subscribe_55 : decode cX12_subscribe 55 = .ok (.ireturn, 1) := by decide +kernel
theorem dX12_isSubscriber_0 : decode cX12_isSubscriber 0 = .ok (.iload_n 1, 1) := by decide +kernel
theorem dX12_isSubscriber_1 : decode cX12_isSubscriber 1 = .ok (.ifCond .lt 13, 3) := by decide +kernel
theorem dX12_isSubscriber_4 : decode cX12_isSubscriber 4 = .ok (.iload_n 1, 1) := by decide +kernel
theorem dX12_isSubscriber_5 : decode cX12_isSubscriber 5 = .ok (.bipush 10, 2) := by decide +kernel
theorem dX12_isSubscriber_7 : decode cX12_isSubscriber 7 = .ok (.if_icmp .ge 7, 3) := by decide +kernel
theorem dX12_isSubscriber_10 : decode cX12_isSubscriber 10 = .ok (.iconst 1, 1) := by decide +kernel
theorem dX12_isSubscriber_11 : decode cX12_isSubscriber 11 = .ok (.goto 4, 3) := by decide +kernel
theorem dX12_isSubscriber_14 : decode cX12_isSubscriber 14 = .ok (.iconst 0, 1) := by decide +kernel
theorem dX12_isSubscriber_15 : decode cX12_isSubscriber 15 = .ok (.ireturn, 1) := by decide +kernel
set_option maxRecDepth 20000 in
theorem ggX12_owed_X12_setVolumeAt : GoodIn wsX12_owed wsX12_setVolumeAt := goodIn_r _ [18, 5, 19, 20, 21, 17, 22, 23, 24, 25, 26, 27, 109, 110, 111, 112, 113, 114, 115, 89, 90, 91, 92, 93, 94, 95, 96, 97, 98, 99, 100, 101, 102, 103, 104, 105, 106, 107, 108] (by decide +kernel) (by decide +kernel)
set_option maxRecDepth 20000 in
theorem gX12_owed_X12_setVolumeAt : GoodIn wsX12_owed (wsV RX12 494 RX12 yX12_setVolumeAt wsX12_setVolumeAt) := goodIn_app (goodIn_of _ (by decide +kernel)) ggX12_owed_X12_setVolumeAt
set_option maxRecDepth 20000 in
theorem ggX12_owed_X12_isSubscriber : GoodIn wsX12_owed wsX12_isSubscriber := goodIn_r _ [31] (by decide +kernel) (by decide +kernel)
set_option maxRecDepth 20000 in
theorem gX12_owed_X12_isSubscriber : GoodIn wsX12_owed (wsV RX12 491 RX12 yX12_isSubscriber wsX12_isSubscriber) := goodIn_app (goodIn_of _ (by decide +kernel)) ggX12_owed_X12_isSubscriber
set_option maxRecDepth 20000 in
theorem ggX12_owed_X8_forgetNames : GoodIn wsX12_owed wsX8_forgetNames := goodIn_r _ [36, 37, 38, 39, 40, 41, 116, 117, 118, 119, 120, 121, 122, 123] (by decide +kernel) (by decide +kernel)
set_option maxRecDepth 20000 in
theorem gX12_owed_X8_forgetNames : GoodIn wsX12_owed (wsV RX12 497 RX8 yX8_forgetNames wsX8_forgetNames) := goodIn_app (goodIn_of _ (by decide +kernel)) ggX12_owed_X8_forgetNames
set_option maxRecDepth 20000 in
theorem ggX12_owed_X8_name : GoodIn wsX12_owed wsX8_name := goodIn_r _ [45, 37, 116, 117, 118, 119, 120, 121, 122, 123] (by decide +kernel) (by decide +kernel)
set_option maxRecDepth 20000 in
theorem gX12_owed_X8_name : GoodIn wsX12_owed (wsV RX12 339 RX8 yX8_name wsX8_name) := goodIn_app (goodIn_of _ (by decide +kernel)) ggX12_owed_X8_name
set_option maxRecDepth 20000 in
theorem ggX12_owed_X8_valueOf : GoodIn wsX12_owed wsX8_valueOf := goodIn_r _ [49, 50, 51, 52, 53, 54, 35, 55, 56, 57, 58, 59, 60, 61, 62, 63, 64, 65, 66, 67, 68, 69, 70, 71, 72, 73, 74, 75, 76, 77, 37, 78, 79, 80, 81, 82, 83, 84, 9, 85, 86, 87, 88, 116, 117, 118, 119, 120, 121, 122, 123, 124, 125, 126, 127] (by decide +kernel) (by decide +kernel)
set_option maxRecDepth 20000 in
theorem gX12_owed_X8_valueOf : GoodIn wsX12_owed (wsV RX12 336 RX8 yX8_valueOf wsX8_valueOf) := goodIn_app (goodIn_of _ (by decide +kernel)) ggX12_owed_X8_valueOf
theorem dX12_owed_0 : decode cX12_owed 0 = .ok (.aload_n 0, 1) := by decide +kernel
theorem dX12_owed_1 : decode cX12_owed 1 = .ok (.iload_n 2, 1) := by decide +kernel
theorem dX12_owed_2 : decode cX12_owed 2 = .ok (.invokevirtual 494, 3) := by decide +kernel
theorem dX12_owed_5 : decode cX12_owed 5 = .ok (.astore_n 3, 1) := by decide +kernel
theorem dX12_owed_6 : decode cX12_owed 6 = .ok (.aload_n 3, 1) := by decide +kernel
theorem dX12_owed_7 : decode cX12_owed 7 = .ok (.ifnull 31, 3) := by decide +kernel
theorem dX12_owed_10 : decode cX12_owed 10 = .ok (.aload_n 0, 1) := by decide +kernel
theorem dX12_owed_11 : decode cX12_owed 11 = .ok (.iload_n 1, 1) := by decide +kernel
theorem dX12_owed_12 : decode cX12_owed 12 = .ok (.invokevirtual 491, 3) := by decide +kernel
theorem dX12_owed_15 : decode cX12_owed 15 = .ok (.ifCond .eq 23, 3) := by decide +kernel
theorem dX12_owed_18 : decode cX12_owed 18 = .ok (.aload_n 0, 1) := by decide +kernel
theorem dX12_owed_19 : decode cX12_owed 19 = .ok (.getfield 70, 3) := by decide +kernel
theorem dX12_owed_22 : decode cX12_owed 22 = .ok (.iload_n 1, 1) := by decide +kernel
theorem dX12_owed_23 : decode cX12_owed 23 = .ok (.iaload, 1) := by decide +kernel
theorem dX12_owed_24 : decode cX12_owed 24 = .ok (.iconst (-1), 1) := by decide +kernel
theorem dX12_owed_25 : decode cX12_owed 25 = .ok (.if_icmp .eq 13, 3) := by decide +kernel
theorem dX12_owed_28 : decode cX12_owed 28 = .ok (.iload_n 2, 1) := by decide +kernel
theorem dX12_owed_29 : decode cX12_owed 29 = .ok (.aload_n 0, 1) := by decide +kernel
theorem dX12_owed_30 : decode cX12_owed 30 = .ok (.getfield 70, 3) := by decide +kernel
theorem dX12_owed_33 : decode cX12_owed 33 = .ok (.iload_n 1, 1) := by decide +kernel
theorem dX12_owed_34 : decode cX12_owed 34 = .ok (.iaload, 1) := by decide +kernel
theorem dX12_owed_35 : decode cX12_owed 35 = .ok (.if_icmp .ge 5, 3) := by decide +kernel
theorem dX12_owed_38 : decode cX12_owed 38 = .ok (.iconst (-1), 1) := by decide +kernel
theorem dX12_owed_39 : decode cX12_owed 39 = .ok (.ireturn, 1) := by decide +kernel
theorem dX12_owed_40 : decode cX12_owed 40 = .ok (.aload_n 0, 1) := by decide +kernel
theorem dX12_owed_41 : decode cX12_owed 41 = .ok (.getfield 19, 3) := by decide +kernel
theorem dX12_owed_44 : decode cX12_owed 44 = .ok (.invokevirtual 497, 3) := by decide +kernel
theorem dX12_owed_47 : decode cX12_owed 47 = .ok (.aload_n 0, 1) := by decide +kernel
theorem dX12_owed_48 : decode cX12_owed 48 = .ok (.getfield 19, 3) := by decide +kernel
theorem dX12_owed_51 : decode cX12_owed 51 = .ok (.bipush 8, 2) := by decide +kernel
theorem dX12_owed_53 : decode cX12_owed 53 = .ok (.aload_n 3, 1) := by decide +kernel
theorem dX12_owed_54 : decode cX12_owed 54 = .ok (.getfield 465, 3) := by decide +kernel
theorem dX12_owed_57 : decode cX12_owed 57 = .ok (.invokevirtual 339, 3) := by decide +kernel
theorem dX12_owed_60 : decode cX12_owed 60 = .ok (.aload_n 0, 1) := by decide +kernel
theorem dX12_owed_61 : decode cX12_owed 61 = .ok (.getfield 19, 3) := by decide +kernel
theorem dX12_owed_64 : decode cX12_owed 64 = .ok (.iconst 1, 1) := by decide +kernel
theorem dX12_owed_65 : decode cX12_owed 65 = .ok (.aload_n 3, 1) := by decide +kernel
theorem dX12_owed_66 : decode cX12_owed 66 = .ok (.getfield 450, 3) := by decide +kernel
theorem dX12_owed_69 : decode cX12_owed 69 = .ok (.invokevirtual 339, 3) := by decide +kernel
theorem dX12_owed_72 : decode cX12_owed 72 = .ok (.aload_n 0, 1) := by decide +kernel
theorem dX12_owed_73 : decode cX12_owed 73 = .ok (.getfield 19, 3) := by decide +kernel
theorem dX12_owed_76 : decode cX12_owed 76 = .ok (.bipush 7, 2) := by decide +kernel
theorem dX12_owed_78 : decode cX12_owed 78 = .ok (.iload_n 2, 1) := by decide +kernel
theorem dX12_owed_79 : decode cX12_owed 79 = .ok (.invokevirtual 339, 3) := by decide +kernel
theorem dX12_owed_82 : decode cX12_owed 82 = .ok (.aload_n 0, 1) := by decide +kernel
theorem dX12_owed_83 : decode cX12_owed 83 = .ok (.getfield 19, 3) := by decide +kernel
theorem dX12_owed_86 : decode cX12_owed 86 = .ok (.iconst 4, 1) := by decide +kernel
theorem dX12_owed_87 : decode cX12_owed 87 = .ok (.iload_n 2, 1) := by decide +kernel
theorem dX12_owed_88 : decode cX12_owed 88 = .ok (.aload_n 3, 1) := by decide +kernel
theorem dX12_owed_89 : decode cX12_owed 89 = .ok (.getfield 170, 3) := by decide +kernel
theorem dX12_owed_92 : decode cX12_owed 92 = .ok (.invokevirtual 336, 3) := by decide +kernel
theorem dX12_owed_95 : decode cX12_owed 95 = .ok (.istore 4, 2) := by decide +kernel
theorem dX12_owed_97 : decode cX12_owed 97 = .ok (.iconst 0, 1) := by decide +kernel
theorem dX12_owed_98 : decode cX12_owed 98 = .ok (.aload_n 0, 1) := by decide +kernel
theorem dX12_owed_99 : decode cX12_owed 99 = .ok (.getfield 73, 3) := by decide +kernel
theorem dX12_owed_102 : decode cX12_owed 102 = .ok (.iload_n 1, 1) := by decide +kernel
theorem dX12_owed_103 : decode cX12_owed 103 = .ok (.iaload, 1) := by decide +kernel
theorem dX12_owed_104 : decode cX12_owed 104 = .ok (.iload 4, 2) := by decide +kernel
theorem dX12_owed_106 : decode cX12_owed 106 = .ok (.invokestatic 152, 3) := by decide +kernel
theorem dX12_owed_109 : decode cX12_owed 109 = .ok (.invokestatic 379, 3) := by decide +kernel
theorem dX12_owed_112 : decode cX12_owed 112 = .ok (.ireturn, 1) := by decide +kernel
set_option maxRecDepth 20000 in
theorem ggX12_lengths_X12_fit : GoodIn wsX12_lengths wsX12_fit := goodIn_r _ [6, 1, 7, 8, 9, 10, 5, 11, 12, 13, 14, 15, 16, 17, 18, 19, 20, 21, 22, 23, 24, 25, 26, 27, 28, 29, 30, 31, 32, 33, 34, 35, 36, 37, 38, 39, 40, 41, 42, 43, 44, 45, 46, 47, 48, 49, 50, 51, 52, 53, 54, 55, 56, 57, 58, 59, 60, 61, 62, 63, 64, 65, 66, 67, 68, 69, 70, 71, 72, 73, 74, 75, 76, 77, 78, 79, 80, 81, 82, 83, 84, 85, 86, 87, 88, 89, 90, 91, 92, 93, 94, 95, 96, 97, 98, 99, 100, 101, 102, 103, 104, 105, 106, 107, 108, 109, 110, 111, 112, 113, 114, 115, 116, 117, 118, 119, 120, 121, 122, 123, 124, 125, 126, 127, 128, 129, 130, 131, 132, 133, 134, 135, 136, 137, 138, 139, 140, 141, 142, 143, 144, 145, 146, 147, 148, 149, 150, 151, 152, 153, 154, 155, 156, 157, 158, 159, 160, 161, 162, 163, 164, 165, 166, 167, 168, 169, 170, 171, 172, 173, 174, 175, 176, 177, 178, 179, 180, 181, 182, 183, 184, 185, 186, 187, 188, 189, 190, 191, 192, 193, 194, 195, 196, 197, 198, 199, 200, 201, 202, 203, 204, 205, 206, 207, 208, 209, 210, 211, 212, 213, 214, 215, 216, 217, 218, 219, 220, 221, 222, 223, 224, 225, 226, 227, 228, 229, 230, 231, 232, 233, 234, 235, 236, 237, 238, 239, 240, 241, 242, 243, 244, 245, 246, 247, 248, 249, 250, 251, 252, 253, 254, 255, 260, 261, 262, 263, 264, 265, 266, 267, 268, 269, 270, 271, 272, 273, 274, 275, 276, 277, 278, 279, 280, 281, 282, 283, 284, 285, 286, 287, 288, 289, 290, 291, 292, 293, 294, 295, 296, 297, 298, 299, 300, 301, 302, 303, 304, 305, 306, 307, 308, 309, 310, 311, 312, 313, 314, 315, 316, 317, 318, 319, 320, 321, 322, 323, 324, 325, 326, 327, 328] (by decide +kernel) (by decide +kernel)
set_option maxRecDepth 20000 in
theorem gX12_lengths_X12_fit : GoodIn wsX12_lengths (wsV RX12 500 RX12 yX12_fit wsX12_fit) := goodIn_app (goodIn_of _ (by decide +kernel)) ggX12_lengths_X12_fit
set_option maxRecDepth 20000 in
theorem ggX12_lengths_X3_differences : GoodIn wsX12_lengths wsX3_differences := goodIn_r _ [259, 147, 238, 235, 253, 254, 77, 255, 316, 317, 318, 319, 320, 321, 322] (by decide +kernel) (by decide +kernel)
set_option maxRecDepth 20000 in
theorem gX12_lengths_X3_differences : GoodIn wsX12_lengths (wsV RX12 503 RX3 yX3_differences wsX3_differences) := goodIn_app (goodIn_of _ (by decide +kernel)) ggX12_lengths_X3_differences
theorem dX12_lengths_0 : decode cX12_lengths 0 = .ok (.aload_n 0, 1) := by decide +kernel
theorem dX12_lengths_1 : decode cX12_lengths 1 = .ok (.iload_n 1, 1) := by decide +kernel
theorem dX12_lengths_2 : decode cX12_lengths 2 = .ok (.iload_n 2, 1) := by decide +kernel
theorem dX12_lengths_3 : decode cX12_lengths 3 = .ok (.invokevirtual 500, 3) := by decide +kernel
theorem dX12_lengths_6 : decode cX12_lengths 6 = .ok (.ifCond .eq 13, 3) := by decide +kernel
theorem dX12_lengths_9 : decode cX12_lengths 9 = .ok (.aload_n 0, 1) := by decide +kernel
theorem dX12_lengths_10 : decode cX12_lengths 10 = .ok (.getfield 85, 3) := by decide +kernel
theorem dX12_lengths_13 : decode cX12_lengths 13 = .ok (.invokevirtual 503, 3) := by decide +kernel
theorem dX12_lengths_16 : decode cX12_lengths 16 = .ok (.goto 4, 3) := by decide +kernel
theorem dX12_lengths_19 : decode cX12_lengths 19 = .ok (.iconst (-1), 1) := by decide +kernel
theorem dX12_lengths_20 : decode cX12_lengths 20 = .ok (.ireturn, 1) := by decide +kernel
set_option maxRecDepth 20000 in
theorem ggX12_length_X12_entryOfKind : GoodIn wsX12_length wsX12_entryOfKind := goodIn_r _ [6, 7, 8, 9, 10, 5, 11, 12, 13, 288, 289, 290, 291, 292, 293, 294, 295, 296, 297, 298, 299, 300, 301, 302, 303, 304, 305, 268, 269, 270, 271, 272, 273, 274, 275, 276, 277, 278, 279, 280, 281, 282, 283, 284, 285, 286, 287] (by decide +kernel) (by decide +kernel)
set_option maxRecDepth 20000 in
theorem gX12_length_X12_entryOfKind : GoodIn wsX12_length (wsV RX12 243 RX12 yX12_entryOfKind wsX12_entryOfKind) := goodIn_app (goodIn_of _ (by decide +kernel)) ggX12_length_X12_entryOfKind
set_option maxRecDepth 20000 in
theorem ggX12_length_X12_isAway : GoodIn wsX12_length wsX12_isAway := goodIn_r _ [17, 18, 19, 20, 5, 21, 22, 23, 24, 25, 26, 27, 28, 29, 30, 31, 32, 33, 288, 289, 290, 291, 292, 293, 294, 295, 296, 297, 298, 299, 300, 301, 302, 303, 304, 305, 268, 269, 270, 271, 272, 273, 274, 275, 276, 277, 278, 279, 280, 281, 282, 283, 284, 285, 286, 287] (by decide +kernel) (by decide +kernel)
set_option maxRecDepth 20000 in
theorem gX12_length_X12_isAway : GoodIn wsX12_length (wsV RX12 481 RX12 yX12_isAway wsX12_isAway) := goodIn_app (goodIn_of _ (by decide +kernel)) ggX12_length_X12_isAway
set_option maxRecDepth 20000 in
theorem ggX12_length_X12_standing : GoodIn wsX12_length wsX12_standing := goodIn_r _ [37, 27, 28, 23, 24, 25, 5, 26, 22, 29, 30, 31, 32, 33, 288, 289, 290, 291, 292, 293, 294, 295, 296, 297, 298, 299, 300, 301, 302, 303, 304, 305, 268, 269, 270, 271, 272, 273, 274, 275, 276, 277, 278, 279, 280, 281, 282, 283, 284, 285, 286, 287] (by decide +kernel) (by decide +kernel)
set_option maxRecDepth 20000 in
theorem gX12_length_X12_standing : GoodIn wsX12_length (wsV RX12 260 RX12 yX12_standing wsX12_standing) := goodIn_app (goodIn_of _ (by decide +kernel)) ggX12_length_X12_standing
set_option maxRecDepth 20000 in
theorem ggX12_length_X12_fit : GoodIn wsX12_length wsX12_fit := goodIn_r _ [41, 1, 42, 43, 44, 45, 5, 46, 29, 30, 31, 32, 33, 47, 48, 49, 50, 51, 52, 12, 27, 53, 54, 55, 56, 57, 58, 59, 60, 61, 62, 63, 64, 65, 66, 67, 68, 69, 70, 71, 72, 73, 74, 75, 76, 77, 78, 79, 80, 81, 82, 83, 84, 85, 86, 87, 88, 89, 90, 91, 92, 93, 94, 95, 96, 97, 98, 99, 100, 101, 102, 103, 104, 105, 106, 107, 108, 109, 8, 9, 10, 11, 13, 34, 35, 36, 37, 28, 23, 24, 25, 26, 22, 110, 111, 112, 113, 114, 115, 116, 117, 118, 119, 120, 121, 122, 123, 124, 125, 126, 127, 128, 129, 130, 131, 132, 133, 134, 135, 136, 137, 138, 139, 140, 141, 142, 143, 144, 145, 146, 147, 148, 149, 150, 151, 152, 153, 154, 155, 156, 157, 158, 159, 160, 161, 162, 163, 164, 165, 18, 19, 20, 21, 166, 167, 168, 169, 7, 170, 171, 172, 173, 174, 175, 176, 177, 178, 179, 180, 181, 182, 183, 184, 185, 186, 187, 188, 189, 190, 191, 192, 193, 194, 195, 196, 197, 198, 199, 200, 201, 202, 203, 204, 205, 206, 207, 208, 209, 210, 211, 212, 213, 214, 215, 216, 217, 218, 219, 220, 221, 222, 223, 224, 225, 226, 227, 228, 229, 230, 231, 232, 233, 234, 235, 236, 237, 238, 239, 240, 241, 242, 243, 244, 245, 246, 247, 248, 249, 250, 251, 252, 253, 254, 255, 256, 257, 258, 259, 260, 261, 262, 263, 268, 269, 270, 271, 272, 273, 274, 275, 276, 277, 278, 279, 280, 281, 282, 283, 284, 285, 286, 287, 288, 289, 290, 291, 292, 293, 294, 295, 296, 297, 298, 299, 300, 301, 302, 303, 304, 305, 306, 307, 308, 309, 310, 311, 312, 313, 314, 315, 316, 317, 318, 319, 320, 321, 322, 323, 324, 325, 326, 327, 328, 329, 330, 331, 332, 333, 334, 335, 336] (by decide +kernel) (by decide +kernel)
set_option maxRecDepth 20000 in
theorem gX12_length_X12_fit : GoodIn wsX12_length (wsV RX12 500 RX12 yX12_fit wsX12_fit) := goodIn_app (goodIn_of _ (by decide +kernel)) ggX12_length_X12_fit
set_option maxRecDepth 20000 in
theorem ggX12_length_X3_fittedOf : GoodIn wsX12_length wsX3_fittedOf := goodIn_r _ [267, 160, 242, 246, 324, 325, 326, 327, 328, 329, 330] (by decide +kernel) (by decide +kernel)
set_option maxRecDepth 20000 in
theorem gX12_length_X3_fittedOf : GoodIn wsX12_length (wsV RX12 506 RX3 yX3_fittedOf wsX3_fittedOf) := goodIn_app (goodIn_of _ (by decide +kernel)) ggX12_length_X3_fittedOf
theorem dX12_length_0 : decode cX12_length 0 = .ok (.aload_n 0, 1) := by decide +kernel
theorem dX12_length_1 : decode cX12_length 1 = .ok (.iload_n 1, 1) := by decide +kernel
theorem dX12_length_2 : decode cX12_length 2 = .ok (.iconst 0, 1) := by decide +kernel
theorem dX12_length_3 : decode cX12_length 3 = .ok (.invokevirtual 243, 3) := by decide +kernel
theorem dX12_length_6 : decode cX12_length 6 = .ok (.astore_n 3, 1) := by decide +kernel
theorem dX12_length_7 : decode cX12_length 7 = .ok (.aload_n 3, 1) := by decide +kernel
theorem dX12_length_8 : decode cX12_length 8 = .ok (.ifnull 24, 3) := by decide +kernel
theorem dX12_length_11 : decode cX12_length 11 = .ok (.aload_n 0, 1) := by decide +kernel
theorem dX12_length_12 : decode cX12_length 12 = .ok (.aload_n 3, 1) := by decide +kernel
theorem dX12_length_13 : decode cX12_length 13 = .ok (.invokevirtual 481, 3) := by decide +kernel
theorem dX12_length_16 : decode cX12_length 16 = .ok (.ifCond .ne 16, 3) := by decide +kernel
theorem dX12_length_19 : decode cX12_length 19 = .ok (.aload_n 0, 1) := by decide +kernel
theorem dX12_length_20 : decode cX12_length 20 = .ok (.aload_n 0, 1) := by decide +kernel
theorem dX12_length_21 : decode cX12_length 21 = .ok (.aload_n 3, 1) := by decide +kernel
theorem dX12_length_22 : decode cX12_length 22 = .ok (.invokevirtual 260, 3) := by decide +kernel
theorem dX12_length_25 : decode cX12_length 25 = .ok (.iload_n 2, 1) := by decide +kernel
theorem dX12_length_26 : decode cX12_length 26 = .ok (.invokevirtual 500, 3) := by decide +kernel
theorem dX12_length_29 : decode cX12_length 29 = .ok (.ifCond .ne 5, 3) := by decide +kernel
theorem dX12_length_32 : decode cX12_length 32 = .ok (.iconst (-1), 1) := by decide +kernel
theorem dX12_length_33 : decode cX12_length 33 = .ok (.ireturn, 1) := by decide +kernel
theorem dX12_length_34 : decode cX12_length 34 = .ok (.aload_n 0, 1) := by decide +kernel
theorem dX12_length_35 : decode cX12_length 35 = .ok (.getfield 85, 3) := by decide +kernel
theorem dX12_length_38 : decode cX12_length 38 = .ok (.iload_n 1, 1) := by decide +kernel
theorem dX12_length_39 : decode cX12_length 39 = .ok (.invokevirtual 506, 3) := by decide +kernel
theorem dX12_length_42 : decode cX12_length 42 = .ok (.ireturn, 1) := by decide +kernel
set_option maxRecDepth 20000 in
theorem ggX12_fit_X12_isVolume : GoodIn wsX12_fit wsX12_isVolume := goodIn_r _ [7] (by decide +kernel) (by decide +kernel)
set_option maxRecDepth 20000 in
theorem gX12_fit_X12_isVolume : GoodIn wsX12_fit (wsV RX12 126 RX12 yX12_isVolume wsX12_isVolume) := goodIn_app (goodIn_of _ (by decide +kernel)) ggX12_fit_X12_isVolume
set_option maxRecDepth 20000 in
theorem ggX12_fit_X12_isSet : GoodIn wsX12_fit wsX12_isSet := goodIn_r _ [11, 12, 252, 253, 254, 255, 256, 257, 258, 259, 260, 261, 262, 263, 264, 265, 266, 267, 268, 269, 270, 271] (by decide +kernel) (by decide +kernel)
set_option maxRecDepth 20000 in
theorem gX12_fit_X12_isSet : GoodIn wsX12_fit (wsV RX12 130 RX12 yX12_isSet wsX12_isSet) := goodIn_app (goodIn_of _ (by decide +kernel)) ggX12_fit_X12_isSet
set_option maxRecDepth 20000 in
theorem ggX12_fit_X12_arrange : GoodIn wsX12_fit wsX12_arrange := goodIn_r _ [16, 2, 17, 18, 19, 20, 21, 22, 23, 24, 25, 26, 27, 28, 29, 30, 31, 32, 33, 34, 35, 36, 37, 38, 39, 40, 41, 42, 43, 44, 45, 46, 47, 48, 49, 50, 51, 52, 53, 54, 55, 56, 57, 58, 59, 60, 61, 62, 63, 64, 65, 66, 67, 68, 69, 70, 71, 72, 73, 74, 75, 76, 77, 78, 79, 80, 6, 81, 82, 83, 84, 85, 86, 87, 88, 89, 90, 91, 92, 8, 9, 10, 11, 12, 93, 94, 95, 96, 97, 98, 99, 100, 101, 102, 103, 104, 105, 106, 107, 108, 109, 110, 111, 112, 113, 114, 115, 116, 117, 118, 119, 120, 121, 122, 123, 124, 125, 126, 127, 128, 129, 130, 131, 132, 133, 134, 135, 136, 137, 252, 253, 254, 255, 256, 257, 258, 259, 260, 261, 262, 263, 264, 265, 266, 267, 268, 269, 270, 271, 272, 273, 274, 275, 276, 277, 278, 279, 280, 281, 282, 283, 284, 285, 286, 287, 288, 289, 290, 291, 292, 293, 294, 295, 296, 297, 298, 299, 300, 301, 302, 303, 304, 305, 306, 307] (by decide +kernel) (by decide +kernel)
set_option maxRecDepth 20000 in
theorem gX12_fit_X12_arrange : GoodIn wsX12_fit (wsV RX12 265 RX12 yX12_arrange wsX12_arrange) := goodIn_app (goodIn_of _ (by decide +kernel)) ggX12_fit_X12_arrange
set_option maxRecDepth 20000 in
theorem ggX12_fit_X3_begin : GoodIn wsX12_fit wsX3_begin := goodIn_r _ [142, 143, 144, 308, 309, 310, 311, 312, 313, 314] (by decide +kernel) (by decide +kernel)
set_option maxRecDepth 20000 in
theorem gX12_fit_X3_begin : GoodIn wsX12_fit (wsV RX12 509 RX3 yX3_begin wsX3_begin) := goodIn_app (goodIn_of _ (by decide +kernel)) ggX12_fit_X3_begin
set_option maxRecDepth 20000 in
theorem ggX12_fit_X12_inRow : GoodIn wsX12_fit wsX12_inRow := goodIn_r _ [148, 2, 113, 78, 79, 80, 6, 81, 19, 82, 252, 253, 254, 255, 256, 257, 258, 259, 260, 261, 262, 263, 264, 265, 266, 267, 268, 269, 270, 271] (by decide +kernel) (by decide +kernel)
set_option maxRecDepth 20000 in
theorem gX12_fit_X12_inRow : GoodIn wsX12_fit (wsV RX12 452 RX12 yX12_inRow wsX12_inRow) := goodIn_app (goodIn_of _ (by decide +kernel)) ggX12_fit_X12_inRow
set_option maxRecDepth 20000 in
theorem ggX12_fit_X12_isStruck : GoodIn wsX12_fit wsX12_isStruck := goodIn_r _ [152, 92, 272, 273, 274, 275, 276, 277, 278, 279, 280, 281, 282, 283, 284, 285, 286, 287, 288, 289] (by decide +kernel) (by decide +kernel)
set_option maxRecDepth 20000 in
theorem gX12_fit_X12_isStruck : GoodIn wsX12_fit (wsV RX12 319 RX12 yX12_isStruck wsX12_isStruck) := goodIn_app (goodIn_of _ (by decide +kernel)) ggX12_fit_X12_isStruck
set_option maxRecDepth 20000 in
theorem ggX12_fit_X12_addToFitting : GoodIn wsX12_fit wsX12_addToFitting := goodIn_r _ [156, 157, 1, 158, 159, 160, 118, 161, 162, 163, 73, 164, 165, 166, 167, 6, 168, 169, 170, 171, 172, 173, 174, 18, 83, 84, 85, 86, 20, 87, 88, 89, 90, 91, 92, 8, 9, 10, 11, 12, 175, 176, 177, 178, 179, 180, 181, 182, 183, 184, 185, 186, 187, 188, 189, 190, 191, 35, 192, 65, 193, 194, 195, 196, 197, 198, 199, 200, 201, 202, 203, 19, 204, 78, 79, 80, 81, 82, 149, 150, 151, 152, 205, 206, 207, 208, 209, 210, 211, 131, 212, 213, 214, 215, 216, 217, 218, 33, 34, 36, 37, 38, 39, 40, 41, 42, 43, 44, 45, 46, 47, 48, 49, 50, 51, 52, 53, 54, 55, 56, 57, 58, 59, 60, 61, 62, 63, 64, 66, 67, 68, 69, 70, 71, 72, 74, 75, 76, 77, 219, 220, 221, 222, 223, 224, 225, 226, 227, 228, 141, 229, 143, 230, 231, 232, 233, 234, 235, 236, 272, 273, 274, 275, 276, 277, 278, 279, 280, 281, 282, 283, 284, 285, 286, 287, 288, 289, 252, 253, 254, 255, 256, 257, 258, 259, 260, 261, 262, 263, 264, 265, 266, 267, 268, 269, 270, 271, 308, 309, 310, 311, 312, 313, 314, 315, 316, 317, 318, 319, 320, 296, 297, 298, 299, 300, 301, 302, 303, 304, 305, 306, 307] (by decide +kernel) (by decide +kernel)
set_option maxRecDepth 20000 in
theorem gX12_fit_X12_addToFitting : GoodIn wsX12_fit (wsV RX12 512 RX12 yX12_addToFitting wsX12_addToFitting) := goodIn_app (goodIn_of _ (by decide +kernel)) ggX12_fit_X12_addToFitting
set_option maxRecDepth 20000 in
theorem ggX12_fit_X3_fitTo : GoodIn wsX12_fit wsX3_fitTo := goodIn_r _ [240, 144, 232, 233, 234, 241, 242, 243, 141, 244, 143, 245, 246, 247, 248, 249, 250, 73, 251, 235, 163, 164, 308, 309, 310, 311, 312, 313, 314] (by decide +kernel) (by decide +kernel)
set_option maxRecDepth 20000 in
theorem gX12_fit_X3_fitTo : GoodIn wsX12_fit (wsV RX12 515 RX3 yX3_fitTo wsX3_fitTo) := goodIn_app (goodIn_of _ (by decide +kernel)) ggX12_fit_X3_fitTo
theorem dX12_fit_0 : decode cX12_fit 0 = .ok (.aload_n 0, 1) := by decide +kernel
theorem dX12_fit_1 : decode cX12_fit 1 = .ok (.iload_n 1, 1) := by decide +kernel
theorem dX12_fit_2 : decode cX12_fit 2 = .ok (.invokevirtual 126, 3) := by decide +kernel
theorem dX12_fit_5 : decode cX12_fit 5 = .ok (.ifCond .eq 23, 3) := by decide +kernel
theorem dX12_fit_8 : decode cX12_fit 8 = .ok (.aload_n 0, 1) := by decide +kernel
theorem dX12_fit_9 : decode cX12_fit 9 = .ok (.iload_n 1, 1) := by decide +kernel
theorem dX12_fit_10 : decode cX12_fit 10 = .ok (.invokevirtual 130, 3) := by decide +kernel
theorem dX12_fit_13 : decode cX12_fit 13 = .ok (.ifCond .ne 15, 3) := by decide +kernel
theorem dX12_fit_16 : decode cX12_fit 16 = .ok (.iload_n 2, 1) := by decide +kernel
theorem dX12_fit_17 : decode cX12_fit 17 = .ok (.iconst 1, 1) := by decide +kernel
theorem dX12_fit_18 : decode cX12_fit 18 = .ok (.if_icmp .lt 10, 3) := by decide +kernel
theorem dX12_fit_21 : decode cX12_fit 21 = .ok (.iload_n 2, 1) := by decide +kernel
theorem dX12_fit_22 : decode cX12_fit 22 = .ok (.sipush 400, 3) := by decide +kernel
theorem dX12_fit_25 : decode cX12_fit 25 = .ok (.if_icmp .le 5, 3) := by decide +kernel
theorem dX12_fit_28 : decode cX12_fit 28 = .ok (.iconst 0, 1) := by decide +kernel
theorem dX12_fit_29 : decode cX12_fit 29 = .ok (.ireturn, 1) := by decide +kernel
theorem dX12_fit_30 : decode cX12_fit 30 = .ok (.aload_n 0, 1) := by decide +kernel
theorem dX12_fit_31 : decode cX12_fit 31 = .ok (.iload_n 1, 1) := by decide +kernel
theorem dX12_fit_32 : decode cX12_fit 32 = .ok (.invokevirtual 265, 3) := by decide +kernel
theorem dX12_fit_35 : decode cX12_fit 35 = .ok (.aload_n 0, 1) := by decide +kernel
theorem dX12_fit_36 : decode cX12_fit 36 = .ok (.getfield 85, 3) := by decide +kernel
theorem dX12_fit_39 : decode cX12_fit 39 = .ok (.invokevirtual 509, 3) := by decide +kernel
theorem dX12_fit_42 : decode cX12_fit 42 = .ok (.iconst 0, 1) := by decide +kernel
theorem dX12_fit_43 : decode cX12_fit 43 = .ok (.istore_n 3, 1) := by decide +kernel
theorem dX12_fit_44 : decode cX12_fit 44 = .ok (.iload_n 3, 1) := by decide +kernel
theorem dX12_fit_45 : decode cX12_fit 45 = .ok (.aload_n 0, 1) := by decide +kernel
theorem dX12_fit_46 : decode cX12_fit 46 = .ok (.getfield 268, 3) := by decide +kernel
theorem dX12_fit_49 : decode cX12_fit 49 = .ok (.if_icmp .ge 36, 3) := by decide +kernel
theorem dX12_fit_52 : decode cX12_fit 52 = .ok (.aload_n 0, 1) := by decide +kernel
theorem dX12_fit_53 : decode cX12_fit 53 = .ok (.iload_n 3, 1) := by decide +kernel
theorem dX12_fit_54 : decode cX12_fit 54 = .ok (.invokevirtual 452, 3) := by decide +kernel
theorem dX12_fit_57 : decode cX12_fit 57 = .ok (.astore 4, 2) := by decide +kernel
theorem dX12_fit_59 : decode cX12_fit 59 = .ok (.aload 4, 2) := by decide +kernel
theorem dX12_fit_61 : decode cX12_fit 61 = .ok (.ifnull 18, 3) := by decide +kernel
theorem dX12_fit_64 : decode cX12_fit 64 = .ok (.aload_n 0, 1) := by decide +kernel
theorem dX12_fit_65 : decode cX12_fit 65 = .ok (.aload 4, 2) := by decide +kernel
theorem dX12_fit_67 : decode cX12_fit 67 = .ok (.invokevirtual 319, 3) := by decide +kernel
theorem dX12_fit_70 : decode cX12_fit 70 = .ok (.ifCond .ne 9, 3) := by decide +kernel
theorem dX12_fit_73 : decode cX12_fit 73 = .ok (.aload_n 0, 1) := by decide +kernel
theorem dX12_fit_74 : decode cX12_fit 74 = .ok (.aload 4, 2) := by decide +kernel
theorem dX12_fit_76 : decode cX12_fit 76 = .ok (.invokevirtual 512, 3) := by decide +kernel
theorem dX12_fit_79 : decode cX12_fit 79 = .ok (.iinc 3 1, 3) := by decide +kernel
theorem dX12_fit_82 : decode cX12_fit 82 = .ok (.goto (-38), 3) := by decide +kernel
theorem dX12_fit_85 : decode cX12_fit 85 = .ok (.aload_n 0, 1) := by decide +kernel
theorem dX12_fit_86 : decode cX12_fit 86 = .ok (.getfield 85, 3) := by decide +kernel
theorem dX12_fit_89 : decode cX12_fit 89 = .ok (.iload_n 2, 1) := by decide +kernel
theorem dX12_fit_90 : decode cX12_fit 90 = .ok (.invokevirtual 515, 3) := by decide +kernel
theorem dX12_fit_93 : decode cX12_fit 93 = .ok (.ireturn, 1) := by decide +kernel
set_option maxRecDepth 20000 in
theorem ggX12_addToFitting_X12_takenLines : GoodIn wsX12_addToFitting wsX12_takenLines := goodIn_r _ [16, 1, 17, 159, 160, 161, 162, 163, 164, 165, 166, 167, 168, 169, 170, 171, 172, 173, 174, 175, 176] (by decide +kernel) (by decide +kernel)
set_option maxRecDepth 20000 in
theorem gX12_addToFitting_X12_takenLines : GoodIn wsX12_addToFitting (wsV RX12 475 RX12 yX12_takenLines wsX12_takenLines) := goodIn_app (goodIn_of _ (by decide +kernel)) ggX12_addToFitting_X12_takenLines
set_option maxRecDepth 20000 in
theorem ggX12_addToFitting_X12_valueFor : GoodIn wsX12_addToFitting wsX12_valueFor := goodIn_r _ [21, 22, 23, 24, 25, 26, 15, 27, 28, 29, 30, 31, 32, 33, 34, 35, 36, 37, 38, 39, 40, 41, 42, 43, 7, 17, 44, 6, 45, 46, 47, 48, 49, 50, 51, 52, 53, 54, 55, 56, 57, 58, 59, 60, 61, 62, 63, 64, 65, 66, 67, 68, 69, 70, 71, 1, 72, 73, 74, 75, 76, 77, 78, 79, 80, 81, 82, 83, 84, 85, 86, 87, 88, 89, 90, 91, 92, 93, 94, 95, 96, 97, 98, 99, 100, 101, 102, 103, 104, 105, 106, 107, 108, 109, 110, 111, 112, 113, 114, 115, 116, 117, 118, 119, 120, 121, 122, 123, 124, 125, 126, 127, 128, 129, 130, 131, 132, 133, 134, 10, 135, 136, 137, 138, 177, 178, 179, 180, 181, 182, 183, 184, 185, 186, 187, 188, 189, 190, 191, 192, 193, 194, 195, 196, 159, 160, 161, 162, 163, 164, 165, 166, 167, 168, 169, 170, 171, 172, 173, 174, 175, 176, 204, 205, 206, 207, 208, 209, 210, 211, 212, 213, 214, 215, 216, 217, 218, 219, 220, 221] (by decide +kernel) (by decide +kernel)
set_option maxRecDepth 20000 in
theorem gX12_addToFitting_X12_valueFor : GoodIn wsX12_addToFitting (wsV RX12 328 RX12 yX12_valueFor wsX12_valueFor) := goodIn_app (goodIn_of _ (by decide +kernel)) ggX12_addToFitting_X12_valueFor
set_option maxRecDepth 20000 in
theorem ggX12_addToFitting_X12_lengthWithin : GoodIn wsX12_addToFitting wsX12_lengthWithin := goodIn_r _ [142, 8, 9, 10, 11, 143, 144, 145] (by decide +kernel) (by decide +kernel)
set_option maxRecDepth 20000 in
theorem gX12_addToFitting_X12_lengthWithin : GoodIn wsX12_addToFitting (wsV RX12 521 RX12 yX12_lengthWithin wsX12_lengthWithin) := goodIn_app (goodIn_of _ (by decide +kernel)) ggX12_addToFitting_X12_lengthWithin
set_option maxRecDepth 20000 in
theorem ggX12_addToFitting_X3_add : GoodIn wsX12_addToFitting wsX3_add := goodIn_r _ [150, 151, 152, 153, 154, 155, 156, 157, 9, 10, 11, 158, 144, 145, 197, 198, 199, 200, 201, 202, 203] (by decide +kernel) (by decide +kernel)
set_option maxRecDepth 20000 in
theorem gX12_addToFitting_X3_add : GoodIn wsX12_addToFitting (wsV RX12 524 RX3 yX3_add wsX3_add) := goodIn_app (goodIn_of _ (by decide +kernel)) ggX12_addToFitting_X3_add
theorem dX12_addToFitting_0 : decode cX12_addToFitting 0 = .ok (.aload_n 1, 1) := by decide +kernel
theorem dX12_addToFitting_1 : decode cX12_addToFitting 1 = .ok (.getfield 240, 3) := by decide +kernel
theorem dX12_addToFitting_4 : decode cX12_addToFitting 4 = .ok (.ifCond .eq 21, 3) := by decide +kernel
theorem dX12_addToFitting_7 : decode cX12_addToFitting 7 = .ok (.aload_n 0, 1) := by decide +kernel
theorem dX12_addToFitting_8 : decode cX12_addToFitting 8 = .ok (.getfield 85, 3) := by decide +kernel
theorem dX12_addToFitting_11 : decode cX12_addToFitting 11 = .ok (.dup, 1) := by decide +kernel
theorem dX12_addToFitting_12 : decode cX12_addToFitting 12 = .ok (.getfield 518, 3) := by decide +kernel
theorem dX12_addToFitting_15 : decode cX12_addToFitting 15 = .ok (.aload_n 0, 1) := by decide +kernel
theorem dX12_addToFitting_16 : decode cX12_addToFitting 16 = .ok (.aload_n 1, 1) := by decide +kernel
theorem dX12_addToFitting_17 : decode cX12_addToFitting 17 = .ok (.invokevirtual 475, 3) := by decide +kernel
theorem dX12_addToFitting_20 : decode cX12_addToFitting 20 = .ok (.iadd, 1) := by decide +kernel
theorem dX12_addToFitting_21 : decode cX12_addToFitting 21 = .ok (.putfield 518, 3) := by decide +kernel
theorem dX12_addToFitting_24 : decode cX12_addToFitting 24 = .ok (.return_, 1) := by decide +kernel
theorem dX12_addToFitting_25 : decode cX12_addToFitting 25 = .ok (.aload_n 0, 1) := by decide +kernel
theorem dX12_addToFitting_26 : decode cX12_addToFitting 26 = .ok (.aload_n 0, 1) := by decide +kernel
theorem dX12_addToFitting_27 : decode cX12_addToFitting 27 = .ok (.iconst 5, 1) := by decide +kernel
theorem dX12_addToFitting_28 : decode cX12_addToFitting 28 = .ok (.aload_n 1, 1) := by decide +kernel
theorem dX12_addToFitting_29 : decode cX12_addToFitting 29 = .ok (.getfield 177, 3) := by decide +kernel
theorem dX12_addToFitting_32 : decode cX12_addToFitting 32 = .ok (.iadd, 1) := by decide +kernel
theorem dX12_addToFitting_33 : decode cX12_addToFitting 33 = .ok (.aload_n 1, 1) := by decide +kernel
theorem dX12_addToFitting_34 : decode cX12_addToFitting 34 = .ok (.aload_n 1, 1) := by decide +kernel
theorem dX12_addToFitting_35 : decode cX12_addToFitting 35 = .ok (.getfield 313, 3) := by decide +kernel
theorem dX12_addToFitting_38 : decode cX12_addToFitting 38 = .ok (.invokevirtual 328, 3) := by decide +kernel
theorem dX12_addToFitting_41 : decode cX12_addToFitting 41 = .ok (.invokevirtual 521, 3) := by decide +kernel
theorem dX12_addToFitting_44 : decode cX12_addToFitting 44 = .ok (.istore_n 2, 1) := by decide +kernel
theorem dX12_addToFitting_45 : decode cX12_addToFitting 45 = .ok (.aload_n 0, 1) := by decide +kernel
theorem dX12_addToFitting_46 : decode cX12_addToFitting 46 = .ok (.aload_n 0, 1) := by decide +kernel
theorem dX12_addToFitting_47 : decode cX12_addToFitting 47 = .ok (.bipush 8, 2) := by decide +kernel
theorem dX12_addToFitting_49 : decode cX12_addToFitting 49 = .ok (.aload_n 1, 1) := by decide +kernel
theorem dX12_addToFitting_50 : decode cX12_addToFitting 50 = .ok (.getfield 177, 3) := by decide +kernel
theorem dX12_addToFitting_53 : decode cX12_addToFitting 53 = .ok (.iadd, 1) := by decide +kernel
theorem dX12_addToFitting_54 : decode cX12_addToFitting 54 = .ok (.aload_n 1, 1) := by decide +kernel
theorem dX12_addToFitting_55 : decode cX12_addToFitting 55 = .ok (.aload_n 1, 1) := by decide +kernel
theorem dX12_addToFitting_56 : decode cX12_addToFitting 56 = .ok (.getfield 313, 3) := by decide +kernel
theorem dX12_addToFitting_59 : decode cX12_addToFitting 59 = .ok (.invokevirtual 328, 3) := by decide +kernel
theorem dX12_addToFitting_62 : decode cX12_addToFitting 62 = .ok (.invokevirtual 521, 3) := by decide +kernel
theorem dX12_addToFitting_65 : decode cX12_addToFitting 65 = .ok (.istore_n 3, 1) := by decide +kernel
theorem dX12_addToFitting_66 : decode cX12_addToFitting 66 = .ok (.aload_n 0, 1) := by decide +kernel
theorem dX12_addToFitting_67 : decode cX12_addToFitting 67 = .ok (.getfield 85, 3) := by decide +kernel
theorem dX12_addToFitting_70 : decode cX12_addToFitting 70 = .ok (.aload_n 1, 1) := by decide +kernel
theorem dX12_addToFitting_71 : decode cX12_addToFitting 71 = .ok (.getfield 186, 3) := by decide +kernel
theorem dX12_addToFitting_74 : decode cX12_addToFitting 74 = .ok (.aload_n 1, 1) := by decide +kernel
theorem dX12_addToFitting_75 : decode cX12_addToFitting 75 = .ok (.getfield 183, 3) := by decide +kernel
theorem dX12_addToFitting_78 : decode cX12_addToFitting 78 = .ok (.iload_n 2, 1) := by decide +kernel
theorem dX12_addToFitting_79 : decode cX12_addToFitting 79 = .ok (.iload_n 3, 1) := by decide +kernel
theorem dX12_addToFitting_80 : decode cX12_addToFitting 80 = .ok (.invokestatic 152, 3) := by decide +kernel
theorem dX12_addToFitting_83 : decode cX12_addToFitting 83 = .ok (.iload_n 3, 1) := by decide +kernel
theorem dX12_addToFitting_84 : decode cX12_addToFitting 84 = .ok (.invokevirtual 524, 3) := by decide +kernel
theorem dX12_addToFitting_87 : decode cX12_addToFitting 87 = .ok (.return_, 1) := by decide +kernel
theorem dX12_lengthWithin_0 : decode cX12_lengthWithin 0 = .ok (.iconst 1, 1) := by decide +kernel
theorem dX12_lengthWithin_1 : decode cX12_lengthWithin 1 = .ok (.sipush 400, 3) := by decide +kernel
theorem dX12_lengthWithin_4 : decode cX12_lengthWithin 4 = .ok (.iload_n 1, 1) := by decide +kernel
theorem dX12_lengthWithin_5 : decode cX12_lengthWithin 5 = .ok (.invokestatic 152, 3) := by decide +kernel
theorem dX12_lengthWithin_8 : decode cX12_lengthWithin 8 = .ok (.invokestatic 379, 3) := by decide +kernel
theorem dX12_lengthWithin_11 : decode cX12_lengthWithin 11 = .ok (.ireturn, 1) := by decide +kernel
set_option maxRecDepth 20000 in
theorem ggX12_giving_X12_canGive : GoodIn wsX12_giving wsX12_canGive := goodIn_r _ [6, 7, 8, 9, 10, 11, 12, 13, 14] (by decide +kernel) (by decide +kernel)
set_option maxRecDepth 20000 in
theorem gX12_giving_X12_canGive : GoodIn wsX12_giving (wsV RX12 528 RX12 yX12_canGive wsX12_canGive) := goodIn_app (goodIn_of _ (by decide +kernel)) ggX12_giving_X12_canGive
set_option maxRecDepth 20000 in
theorem ggX12_giving_X12_addHands : GoodIn wsX12_giving wsX12_addHands := goodIn_r _ [18, 1, 19, 20, 21, 22, 23, 24, 25, 26, 27, 28, 29, 5, 30, 31, 32, 33, 34, 35, 36, 37, 38, 39, 40, 41, 42, 43, 44, 233, 234, 235, 236, 237, 238, 239, 240, 241, 242, 243, 244, 245, 246, 247, 248, 249, 250, 251, 252, 253, 254, 255, 256, 257, 258, 259, 260, 261, 262, 263, 264, 265, 266, 267, 268] (by decide +kernel) (by decide +kernel)
set_option maxRecDepth 20000 in
theorem gX12_giving_X12_addHands : GoodIn wsX12_giving (wsV RX12 532 RX12 yX12_addHands wsX12_addHands) := goodIn_app (goodIn_of _ (by decide +kernel)) ggX12_giving_X12_addHands
set_option maxRecDepth 20000 in
theorem ggX12_giving_X12_addArticles : GoodIn wsX12_giving wsX12_addArticles := goodIn_r _ [48, 49, 50, 1, 51, 52, 53, 54, 55, 56, 5, 57, 58, 59, 60, 61, 62, 63, 64, 65, 66, 67, 68, 69, 70, 71, 72, 73, 74, 75, 76, 27, 28, 29, 30, 31, 32, 33, 34, 35, 36, 37, 77, 78, 79, 23, 80, 25, 81, 82, 83, 84, 85, 86, 87, 42, 88, 89, 90, 91, 92, 93, 94, 95, 96, 97, 98, 99, 100, 101, 102, 103, 104, 105, 106, 107, 108, 109, 110, 111, 112, 113, 114, 115, 116, 117, 118, 119, 120, 121, 19, 122, 123, 124, 125, 126, 127, 128, 129, 130, 131, 132, 133, 134, 135, 136, 137, 138, 139, 140, 141, 142, 143, 144, 145, 146, 147, 148, 149, 150, 151, 152, 153, 154, 155, 156, 157, 158, 159, 160, 161, 162, 163, 164, 165, 166, 167, 168, 169, 170, 171, 172, 173, 174, 175, 176, 177, 178, 179, 180, 181, 182, 183, 184, 185, 186, 187, 188, 189, 190, 191, 192, 193, 194, 195, 196, 197, 198, 199, 44, 269, 270, 271, 272, 273, 274, 275, 276, 277, 278, 279, 280, 281, 282, 283, 284, 285, 286, 233, 234, 235, 236, 237, 238, 239, 240, 241, 242, 243, 244, 245, 246, 247, 248, 249, 250, 251, 252, 259, 260, 261, 262, 263, 264, 265, 266, 267, 268, 253, 254, 255, 256, 257, 258, 287, 288, 289, 290, 291, 292, 293, 294, 295, 296, 297, 298] (by decide +kernel) (by decide +kernel)
set_option maxRecDepth 20000 in
theorem gX12_giving_X12_addArticles : GoodIn wsX12_giving (wsV RX12 535 RX12 yX12_addArticles wsX12_addArticles) := goodIn_app (goodIn_of _ (by decide +kernel)) ggX12_giving_X12_addArticles
set_option maxRecDepth 20000 in
theorem ggX12_giving_X1_choose : GoodIn wsX12_giving wsX1_choose := goodIn_r _ [203, 25, 82, 83, 204, 205, 206, 23, 207, 208, 209, 191, 210, 211, 212, 213, 214, 26, 44, 43, 215, 216, 217, 218, 219, 220, 221, 10, 222, 223, 224, 225, 226, 227, 228, 9, 11, 12, 13, 14, 229, 230, 231, 232, 259, 260, 261, 262, 263, 264, 265, 266, 267, 268] (by decide +kernel) (by decide +kernel)
set_option maxRecDepth 20000 in
theorem gX12_giving_X1_choose : GoodIn wsX12_giving (wsV RX12 538 RX1 yX1_choose wsX1_choose) := goodIn_app (goodIn_of _ (by decide +kernel)) ggX12_giving_X1_choose
theorem dX12_giving_0 : decode cX12_giving 0 = .ok (.aload_n 0, 1) := by decide +kernel
theorem dX12_giving_1 : decode cX12_giving 1 = .ok (.iload_n 1, 1) := by decide +kernel
theorem dX12_giving_2 : decode cX12_giving 2 = .ok (.iload_n 2, 1) := by decide +kernel
theorem dX12_giving_3 : decode cX12_giving 3 = .ok (.iload_n 3, 1) := by decide +kernel
theorem dX12_giving_4 : decode cX12_giving 4 = .ok (.invokevirtual 528, 3) := by decide +kernel
theorem dX12_giving_7 : decode cX12_giving 7 = .ok (.ifCond .eq 30, 3) := by decide +kernel
theorem dX12_giving_10 : decode cX12_giving 10 = .ok (.aload_n 0, 1) := by decide +kernel
theorem dX12_giving_11 : decode cX12_giving 11 = .ok (.iload_n 2, 1) := by decide +kernel
theorem dX12_giving_12 : decode cX12_giving 12 = .ok (.iload_n 3, 1) := by decide +kernel
theorem dX12_giving_13 : decode cX12_giving 13 = .ok (.invokevirtual 532, 3) := by decide +kernel
theorem dX12_giving_16 : decode cX12_giving 16 = .ok (.ifCond .eq 21, 3) := by decide +kernel
theorem dX12_giving_19 : decode cX12_giving 19 = .ok (.aload_n 0, 1) := by decide +kernel
theorem dX12_giving_20 : decode cX12_giving 20 = .ok (.iload_n 1, 1) := by decide +kernel
theorem dX12_giving_21 : decode cX12_giving 21 = .ok (.invokevirtual 535, 3) := by decide +kernel
theorem dX12_giving_24 : decode cX12_giving 24 = .ok (.ifCond .eq 13, 3) := by decide +kernel
theorem dX12_giving_27 : decode cX12_giving 27 = .ok (.aload_n 0, 1) := by decide +kernel
theorem dX12_giving_28 : decode cX12_giving 28 = .ok (.getfield 92, 3) := by decide +kernel
theorem dX12_giving_31 : decode cX12_giving 31 = .ok (.invokevirtual 538, 3) := by decide +kernel
theorem dX12_giving_34 : decode cX12_giving 34 = .ok (.goto 4, 3) := by decide +kernel
theorem dX12_giving_37 : decode cX12_giving 37 = .ok (.iconst (-1), 1) := by decide +kernel
theorem dX12_giving_38 : decode cX12_giving 38 = .ok (.ireturn, 1) := by decide +kernel
set_option maxRecDepth 20000 in
theorem ggX12_given_X12_canGive : GoodIn wsX12_given wsX12_canGive := goodIn_r _ [6, 7, 8, 9, 10, 11, 12, 13, 14] (by decide +kernel) (by decide +kernel)
set_option maxRecDepth 20000 in
theorem gX12_given_X12_canGive : GoodIn wsX12_given (wsV RX12 528 RX12 yX12_canGive wsX12_canGive) := goodIn_app (goodIn_of _ (by decide +kernel)) ggX12_given_X12_canGive
set_option maxRecDepth 20000 in
theorem ggX12_given_X12_addHands : GoodIn wsX12_given wsX12_addHands := goodIn_r _ [18, 1, 19, 20, 21, 22, 23, 24, 25, 26, 27, 28, 29, 5, 30, 31, 32, 33, 34, 35, 36, 37, 38, 39, 40, 41, 42, 43, 44, 238, 239, 240, 241, 242, 243, 244, 245, 246, 247, 248, 249, 250, 251, 252, 253, 254, 255, 256, 257, 258, 259, 260, 261, 262, 263, 264, 265, 266, 267, 268, 269, 270, 271, 272, 273] (by decide +kernel) (by decide +kernel)
set_option maxRecDepth 20000 in
theorem gX12_given_X12_addHands : GoodIn wsX12_given (wsV RX12 532 RX12 yX12_addHands wsX12_addHands) := goodIn_app (goodIn_of _ (by decide +kernel)) ggX12_given_X12_addHands
set_option maxRecDepth 20000 in
theorem ggX12_given_X12_addArticles : GoodIn wsX12_given wsX12_addArticles := goodIn_r _ [48, 49, 50, 1, 51, 52, 53, 54, 55, 56, 5, 57, 58, 59, 60, 61, 62, 63, 64, 65, 66, 67, 68, 69, 70, 71, 72, 73, 74, 75, 76, 27, 28, 29, 30, 31, 32, 33, 34, 35, 36, 37, 77, 78, 79, 23, 80, 25, 81, 82, 83, 84, 85, 86, 87, 42, 88, 89, 90, 91, 92, 93, 94, 95, 96, 97, 98, 99, 100, 101, 102, 103, 104, 105, 106, 107, 108, 109, 110, 111, 112, 113, 114, 115, 116, 117, 118, 119, 120, 121, 19, 122, 123, 124, 125, 126, 127, 128, 129, 130, 131, 132, 133, 134, 135, 136, 137, 138, 139, 140, 141, 142, 143, 144, 145, 146, 147, 148, 149, 150, 151, 152, 153, 154, 155, 156, 157, 158, 159, 160, 161, 162, 163, 164, 165, 166, 167, 168, 169, 170, 171, 172, 173, 174, 175, 176, 177, 178, 179, 180, 181, 182, 183, 184, 185, 186, 187, 188, 189, 190, 191, 192, 193, 194, 195, 196, 197, 198, 199, 44, 274, 275, 276, 277, 278, 279, 280, 281, 282, 283, 284, 285, 286, 287, 288, 289, 290, 291, 238, 239, 240, 241, 242, 243, 244, 245, 246, 247, 248, 249, 250, 251, 252, 253, 254, 255, 256, 257, 264, 265, 266, 267, 268, 269, 270, 271, 272, 273, 258, 259, 260, 261, 262, 263, 292, 293, 294, 295, 296, 297, 298, 299, 300, 301, 302, 303] (by decide +kernel) (by decide +kernel)
set_option maxRecDepth 20000 in
theorem gX12_given_X12_addArticles : GoodIn wsX12_given (wsV RX12 535 RX12 yX12_addArticles wsX12_addArticles) := goodIn_app (goodIn_of _ (by decide +kernel)) ggX12_given_X12_addArticles
set_option maxRecDepth 20000 in
theorem ggX12_given_X1_choose : GoodIn wsX12_given wsX1_choose := goodIn_r _ [203, 25, 82, 83, 204, 205, 206, 23, 207, 208, 209, 191, 210, 211, 212, 213, 214, 26, 44, 43, 215, 216, 217, 218, 219, 220, 221, 10, 222, 223, 224, 225, 226, 227, 228, 9, 11, 12, 13, 14, 229, 230, 231, 232, 264, 265, 266, 267, 268, 269, 270, 271, 272, 273] (by decide +kernel) (by decide +kernel)
set_option maxRecDepth 20000 in
theorem gX12_given_X1_choose : GoodIn wsX12_given (wsV RX12 538 RX1 yX1_choose wsX1_choose) := goodIn_app (goodIn_of _ (by decide +kernel)) ggX12_given_X1_choose
set_option maxRecDepth 20000 in
theorem ggX12_given_X1_handOf : GoodIn wsX12_given wsX1_handOf := goodIn_r _ [236, 25, 81, 83, 237, 85, 86, 23, 87, 42, 264, 265, 266, 267, 268, 269, 270, 271, 272, 273] (by decide +kernel) (by decide +kernel)
set_option maxRecDepth 20000 in
theorem gX12_given_X1_handOf : GoodIn wsX12_given (wsV RX12 541 RX1 yX1_handOf wsX1_handOf) := goodIn_app (goodIn_of _ (by decide +kernel)) ggX12_given_X1_handOf
theorem dX12_given_0 : decode cX12_given 0 = .ok (.aload_n 0, 1) := by decide +kernel
theorem dX12_given_1 : decode cX12_given 1 = .ok (.iload_n 1, 1) := by decide +kernel
theorem dX12_given_2 : decode cX12_given 2 = .ok (.iload_n 2, 1) := by decide +kernel
theorem dX12_given_3 : decode cX12_given 3 = .ok (.iload_n 3, 1) := by decide +kernel
theorem dX12_given_4 : decode cX12_given 4 = .ok (.invokevirtual 528, 3) := by decide +kernel
theorem dX12_given_7 : decode cX12_given 7 = .ok (.ifCond .eq 24, 3) := by decide +kernel
theorem dX12_given_10 : decode cX12_given 10 = .ok (.aload_n 0, 1) := by decide +kernel
theorem dX12_given_11 : decode cX12_given 11 = .ok (.iload_n 2, 1) := by decide +kernel
theorem dX12_given_12 : decode cX12_given 12 = .ok (.iload_n 3, 1) := by decide +kernel
theorem dX12_given_13 : decode cX12_given 13 = .ok (.invokevirtual 532, 3) := by decide +kernel
theorem dX12_given_16 : decode cX12_given 16 = .ok (.ifCond .eq 15, 3) := by decide +kernel
theorem dX12_given_19 : decode cX12_given 19 = .ok (.aload_n 0, 1) := by decide +kernel
theorem dX12_given_20 : decode cX12_given 20 = .ok (.iload_n 1, 1) := by decide +kernel
theorem dX12_given_21 : decode cX12_given 21 = .ok (.invokevirtual 535, 3) := by decide +kernel
theorem dX12_given_24 : decode cX12_given 24 = .ok (.ifCond .eq 7, 3) := by decide +kernel
theorem dX12_given_27 : decode cX12_given 27 = .ok (.iconst 1, 1) := by decide +kernel
theorem dX12_given_28 : decode cX12_given 28 = .ok (.goto 4, 3) := by decide +kernel
theorem dX12_given_31 : decode cX12_given 31 = .ok (.iconst 0, 1) := by decide +kernel
theorem dX12_given_32 : decode cX12_given 32 = .ok (.istore 5, 2) := by decide +kernel
theorem dX12_given_34 : decode cX12_given 34 = .ok (.iload 5, 2) := by decide +kernel
theorem dX12_given_36 : decode cX12_given 36 = .ok (.ifCond .eq 25, 3) := by decide +kernel
theorem dX12_given_39 : decode cX12_given 39 = .ok (.aload_n 0, 1) := by decide +kernel
theorem dX12_given_40 : decode cX12_given 40 = .ok (.getfield 92, 3) := by decide +kernel
theorem dX12_given_43 : decode cX12_given 43 = .ok (.invokevirtual 538, 3) := by decide +kernel
theorem dX12_given_46 : decode cX12_given 46 = .ok (.ifCond .le 15, 3) := by decide +kernel
theorem dX12_given_49 : decode cX12_given 49 = .ok (.aload_n 0, 1) := by decide +kernel
theorem dX12_given_50 : decode cX12_given 50 = .ok (.getfield 92, 3) := by decide +kernel
theorem dX12_given_53 : decode cX12_given 53 = .ok (.iload 4, 2) := by decide +kernel
theorem dX12_given_55 : decode cX12_given 55 = .ok (.invokevirtual 541, 3) := by decide +kernel
theorem dX12_given_58 : decode cX12_given 58 = .ok (.goto 4, 3) := by decide +kernel
theorem dX12_given_61 : decode cX12_given 61 = .ok (.iconst (-1), 1) := by decide +kernel
theorem dX12_given_62 : decode cX12_given 62 = .ok (.ireturn, 1) := by decide +kernel
set_option maxRecDepth 20000 in
theorem ggX12_canGive_J6_bitCount_0f7a4 : GoodIn wsX12_canGive wsJ6_bitCount_0f7a4 := goodIn_r _ [5, 6, 7, 8] (by decide +kernel) (by decide +kernel)
set_option maxRecDepth 20000 in
theorem gX12_canGive_J6_bitCount_0f7a4 : GoodIn wsX12_canGive (va_wsS RX12 545 yJ6_bitCount_0f7a4 wsJ6_bitCount_0f7a4) := goodIn_app (goodIn_of _ (by decide +kernel)) ggX12_canGive_J6_bitCount_0f7a4
theorem dX12_canGive_0 : decode cX12_canGive 0 = .ok (.iload_n 1, 1) := by decide +kernel
theorem dX12_canGive_1 : decode cX12_canGive 1 = .ok (.ifCond .le 25, 3) := by decide +kernel
theorem dX12_canGive_4 : decode cX12_canGive 4 = .ok (.iload_n 1, 1) := by decide +kernel
theorem dX12_canGive_5 : decode cX12_canGive 5 = .ok (.ldc_w 544, 3) := by decide +kernel
theorem dX12_canGive_8 : decode cX12_canGive 8 = .ok (.if_icmp .ge 18, 3) := by decide +kernel
theorem dX12_canGive_11 : decode cX12_canGive 11 = .ok (.iload_n 2, 1) := by decide +kernel
theorem dX12_canGive_12 : decode cX12_canGive 12 = .ok (.ifCond .le 14, 3) := by decide +kernel
theorem dX12_canGive_15 : decode cX12_canGive 15 = .ok (.iload_n 2, 1) := by decide +kernel
theorem dX12_canGive_16 : decode cX12_canGive 16 = .ok (.sipush 4096, 3) := by decide +kernel
theorem dX12_canGive_19 : decode cX12_canGive 19 = .ok (.if_icmp .ge 7, 3) := by decide +kernel
theorem dX12_canGive_22 : decode cX12_canGive 22 = .ok (.iconst 1, 1) := by decide +kernel
theorem dX12_canGive_23 : decode cX12_canGive 23 = .ok (.goto 4, 3) := by decide +kernel
theorem dX12_canGive_26 : decode cX12_canGive 26 = .ok (.iconst 0, 1) := by decide +kernel
theorem dX12_canGive_27 : decode cX12_canGive 27 = .ok (.istore 4, 2) := by decide +kernel
theorem dX12_canGive_29 : decode cX12_canGive 29 = .ok (.iload_n 1, 1) := by decide +kernel
theorem dX12_canGive_30 : decode cX12_canGive 30 = .ok (.invokestatic 545, 3) := by decide +kernel
theorem dX12_canGive_33 : decode cX12_canGive 33 = .ok (.bipush 7, 2) := by decide +kernel
theorem dX12_canGive_35 : decode cX12_canGive 35 = .ok (.if_icmp .gt 16, 3) := by decide +kernel
theorem dX12_canGive_38 : decode cX12_canGive 38 = .ok (.iload_n 2, 1) := by decide +kernel
theorem dX12_canGive_39 : decode cX12_canGive 39 = .ok (.invokestatic 545, 3) := by decide +kernel
theorem dX12_canGive_42 : decode cX12_canGive 42 = .ok (.bipush 6, 2) := by decide +kernel
theorem dX12_canGive_44 : decode cX12_canGive 44 = .ok (.if_icmp .gt 7, 3) := by decide +kernel
theorem dX12_canGive_47 : decode cX12_canGive 47 = .ok (.iconst 1, 1) := by decide +kernel
theorem dX12_canGive_48 : decode cX12_canGive 48 = .ok (.goto 4, 3) := by decide +kernel
theorem dX12_canGive_51 : decode cX12_canGive 51 = .ok (.iconst 0, 1) := by decide +kernel
theorem dX12_canGive_52 : decode cX12_canGive 52 = .ok (.istore 5, 2) := by decide +kernel
theorem dX12_canGive_54 : decode cX12_canGive 54 = .ok (.iload 4, 2) := by decide +kernel
theorem dX12_canGive_56 : decode cX12_canGive 56 = .ok (.ifCond .eq 24, 3) := by decide +kernel
theorem dX12_canGive_59 : decode cX12_canGive 59 = .ok (.iload 5, 2) := by decide +kernel
theorem dX12_canGive_61 : decode cX12_canGive 61 = .ok (.ifCond .eq 19, 3) := by decide +kernel
theorem dX12_canGive_64 : decode cX12_canGive 64 = .ok (.iload_n 3, 1) := by decide +kernel
theorem dX12_canGive_65 : decode cX12_canGive 65 = .ok (.iconst 1, 1) := by decide +kernel
theorem dX12_canGive_66 : decode cX12_canGive 66 = .ok (.if_icmp .lt 14, 3) := by decide +kernel
theorem dX12_canGive_69 : decode cX12_canGive 69 = .ok (.iload_n 3, 1) := by decide +kernel
theorem dX12_canGive_70 : decode cX12_canGive 70 = .ok (.sipush 400, 3) := by decide +kernel
theorem dX12_canGive_73 : decode cX12_canGive 73 = .ok (.if_icmp .gt 7, 3) := by decide +kernel
theorem dX12_canGive_76 : decode cX12_canGive 76 = .ok (.iconst 1, 1) := by decide +kernel
theorem dX12_canGive_77 : decode cX12_canGive 77 = .ok (.goto 4, 3) := by decide +kernel
theorem dX12_canGive_80 : decode cX12_canGive 80 = .ok (.iconst 0, 1) := by decide +kernel
theorem dX12_canGive_81 : decode cX12_canGive 81 = .ok (.ireturn, 1) := by decide +kernel
set_option maxRecDepth 20000 in
theorem ggX12_addHands_X1_begin : GoodIn wsX12_addHands wsX1_begin := goodIn_r _ [7, 8, 9, 55, 56, 57, 58, 59, 60, 61, 62, 63, 64] (by decide +kernel) (by decide +kernel)
set_option maxRecDepth 20000 in
theorem gX12_addHands_X1_begin : GoodIn wsX12_addHands (wsV RX12 549 RX1 yX1_begin wsX1_begin) := goodIn_app (goodIn_of _ (by decide +kernel)) ggX12_addHands_X1_begin
set_option maxRecDepth 20000 in
theorem ggX12_addHands_X12_livingHandAt : GoodIn wsX12_addHands wsX12_livingHandAt := goodIn_r _ [14, 15, 16, 17, 18, 13, 19, 20, 21, 49, 50, 51, 52, 53, 54, 29, 30, 31, 32, 33, 34, 35, 36, 37, 38, 39, 40, 41, 42, 43, 44, 45, 46, 47, 48] (by decide +kernel) (by decide +kernel)
set_option maxRecDepth 20000 in
theorem gX12_addHands_X12_livingHandAt : GoodIn wsX12_addHands (wsV RX12 316 RX12 yX12_livingHandAt wsX12_livingHandAt) := goodIn_app (goodIn_of _ (by decide +kernel)) ggX12_addHands_X12_livingHandAt
set_option maxRecDepth 20000 in
theorem ggX12_addHands_X1_addHand : GoodIn wsX12_addHands wsX1_addHand := goodIn_r _ [25, 9, 26, 27, 28, 55, 56, 57, 58, 59, 60, 61, 62, 63, 64] (by decide +kernel) (by decide +kernel)
set_option maxRecDepth 20000 in
theorem gX12_addHands_X1_addHand : GoodIn wsX12_addHands (wsV RX12 550 RX1 yX1_addHand wsX1_addHand) := goodIn_app (goodIn_of _ (by decide +kernel)) ggX12_addHands_X1_addHand
theorem dX12_addHands_0 : decode cX12_addHands 0 = .ok (.aload_n 0, 1) := by decide +kernel
theorem dX12_addHands_1 : decode cX12_addHands 1 = .ok (.getfield 92, 3) := by decide +kernel
theorem dX12_addHands_4 : decode cX12_addHands 4 = .ok (.invokevirtual 549, 3) := by decide +kernel
theorem dX12_addHands_7 : decode cX12_addHands 7 = .ok (.iconst 0, 1) := by decide +kernel
theorem dX12_addHands_8 : decode cX12_addHands 8 = .ok (.istore_n 3, 1) := by decide +kernel
theorem dX12_addHands_9 : decode cX12_addHands 9 = .ok (.iload_n 3, 1) := by decide +kernel
theorem dX12_addHands_10 : decode cX12_addHands 10 = .ok (.bipush 12, 2) := by decide +kernel
theorem dX12_addHands_12 : decode cX12_addHands 12 = .ok (.if_icmp .ge 49, 3) := by decide +kernel
theorem dX12_addHands_15 : decode cX12_addHands 15 = .ok (.iload_n 1, 1) := by decide +kernel
theorem dX12_addHands_16 : decode cX12_addHands 16 = .ok (.iload_n 3, 1) := by decide +kernel
theorem dX12_addHands_17 : decode cX12_addHands 17 = .ok (.ishr, 1) := by decide +kernel
theorem dX12_addHands_18 : decode cX12_addHands 18 = .ok (.iconst 1, 1) := by decide +kernel
theorem dX12_addHands_19 : decode cX12_addHands 19 = .ok (.iand, 1) := by decide +kernel
theorem dX12_addHands_20 : decode cX12_addHands 20 = .ok (.ifCond .ne 6, 3) := by decide +kernel
theorem dX12_addHands_23 : decode cX12_addHands 23 = .ok (.goto 32, 3) := by decide +kernel
theorem dX12_addHands_26 : decode cX12_addHands 26 = .ok (.aload_n 0, 1) := by decide +kernel
theorem dX12_addHands_27 : decode cX12_addHands 27 = .ok (.iload_n 3, 1) := by decide +kernel
theorem dX12_addHands_28 : decode cX12_addHands 28 = .ok (.invokevirtual 316, 3) := by decide +kernel
theorem dX12_addHands_31 : decode cX12_addHands 31 = .ok (.astore 4, 2) := by decide +kernel
theorem dX12_addHands_33 : decode cX12_addHands 33 = .ok (.aload 4, 2) := by decide +kernel
theorem dX12_addHands_35 : decode cX12_addHands 35 = .ok (.ifnonnull 5, 3) := by decide +kernel
theorem dX12_addHands_38 : decode cX12_addHands 38 = .ok (.iconst 0, 1) := by decide +kernel
theorem dX12_addHands_39 : decode cX12_addHands 39 = .ok (.ireturn, 1) := by decide +kernel
theorem dX12_addHands_40 : decode cX12_addHands 40 = .ok (.aload_n 0, 1) := by decide +kernel
theorem dX12_addHands_41 : decode cX12_addHands 41 = .ok (.getfield 92, 3) := by decide +kernel
theorem dX12_addHands_44 : decode cX12_addHands 44 = .ok (.iload_n 3, 1) := by decide +kernel
theorem dX12_addHands_45 : decode cX12_addHands 45 = .ok (.aload 4, 2) := by decide +kernel
theorem dX12_addHands_47 : decode cX12_addHands 47 = .ok (.getfield 358, 3) := by decide +kernel
theorem dX12_addHands_50 : decode cX12_addHands 50 = .ok (.iload_n 2, 1) := by decide +kernel
theorem dX12_addHands_51 : decode cX12_addHands 51 = .ok (.imul, 1) := by decide +kernel
theorem dX12_addHands_52 : decode cX12_addHands 52 = .ok (.invokevirtual 550, 3) := by decide +kernel
theorem dX12_addHands_55 : decode cX12_addHands 55 = .ok (.iinc 3 1, 3) := by decide +kernel
theorem dX12_addHands_58 : decode cX12_addHands 58 = .ok (.goto (-49), 3) := by decide +kernel
theorem dX12_addHands_61 : decode cX12_addHands 61 = .ok (.iconst 1, 1) := by decide +kernel
theorem dX12_addHands_62 : decode cX12_addHands 62 = .ok (.ireturn, 1) := by decide +kernel
set_option maxRecDepth 20000 in
theorem ggX12_addArticles_X12_entryOfKind : GoodIn wsX12_addArticles wsX12_entryOfKind := goodIn_r _ [11, 12, 13, 14, 15, 10, 16, 17, 18, 170, 171, 172, 173, 174, 175, 176, 177, 178, 179, 180, 181, 182, 183, 184, 185, 186, 187, 188, 189, 190, 191, 192, 193, 194, 195, 196, 197, 198, 199, 200, 201, 202, 203, 204, 205, 206, 207] (by decide +kernel) (by decide +kernel)
set_option maxRecDepth 20000 in
theorem gX12_addArticles_X12_entryOfKind : GoodIn wsX12_addArticles (wsV RX12 243 RX12 yX12_entryOfKind wsX12_entryOfKind) := goodIn_app (goodIn_of _ (by decide +kernel)) ggX12_addArticles_X12_entryOfKind
set_option maxRecDepth 20000 in
theorem ggX12_addArticles_X0_isDone : GoodIn wsX12_addArticles wsX0_isDone := goodIn_r _ [23, 24, 25, 170, 171, 172, 173, 174, 175, 176, 177, 178, 179, 180, 181, 182, 183, 184, 185, 186, 187] (by decide +kernel) (by decide +kernel)
set_option maxRecDepth 20000 in
theorem gX12_addArticles_X0_isDone : GoodIn wsX12_addArticles (wsV RX12 306 RX0 yX0_isDone wsX0_isDone) := goodIn_app (goodIn_of _ (by decide +kernel)) ggX12_addArticles_X0_isDone
set_option maxRecDepth 20000 in
theorem ggX12_addArticles_X12_isStruck : GoodIn wsX12_addArticles wsX12_isStruck := goodIn_r _ [29, 30, 170, 171, 172, 173, 174, 175, 176, 177, 178, 179, 180, 181, 182, 183, 184, 185, 186, 187] (by decide +kernel) (by decide +kernel)
set_option maxRecDepth 20000 in
theorem gX12_addArticles_X12_isStruck : GoodIn wsX12_addArticles (wsV RX12 319 RX12 yX12_isStruck wsX12_isStruck) := goodIn_app (goodIn_of _ (by decide +kernel)) ggX12_addArticles_X12_isStruck
set_option maxRecDepth 20000 in
theorem ggX12_addArticles_X12_livingHandAt : GoodIn wsX12_addArticles wsX12_livingHandAt := goodIn_r _ [34, 35, 36, 37, 38, 10, 39, 40, 41, 218, 219, 220, 221, 222, 223, 188, 189, 190, 191, 192, 193, 194, 195, 196, 197, 198, 199, 200, 201, 202, 203, 204, 205, 206, 207] (by decide +kernel) (by decide +kernel)
set_option maxRecDepth 20000 in
theorem gX12_addArticles_X12_livingHandAt : GoodIn wsX12_addArticles (wsV RX12 316 RX12 yX12_livingHandAt wsX12_livingHandAt) := goodIn_app (goodIn_of _ (by decide +kernel)) ggX12_addArticles_X12_livingHandAt
set_option maxRecDepth 20000 in
theorem ggX12_addArticles_X1_addArticle : GoodIn wsX12_addArticles wsX1_addArticle := goodIn_r _ [46, 47, 48, 49, 50, 208, 209, 210, 211, 212, 213, 214, 215, 216, 217] (by decide +kernel) (by decide +kernel)
set_option maxRecDepth 20000 in
theorem gX12_addArticles_X1_addArticle : GoodIn wsX12_addArticles (wsV RX12 553 RX1 yX1_addArticle wsX1_addArticle) := goodIn_app (goodIn_of _ (by decide +kernel)) ggX12_addArticles_X1_addArticle
set_option maxRecDepth 20000 in
theorem ggX12_addArticles_X1_handNumber : GoodIn wsX12_addArticles wsX1_handNumber := goodIn_r _ [54, 55, 208, 209, 210, 211, 212, 213, 214, 215, 216, 217] (by decide +kernel) (by decide +kernel)
set_option maxRecDepth 20000 in
theorem gX12_addArticles_X1_handNumber : GoodIn wsX12_addArticles (wsV RX12 557 RX1 yX1_handNumber wsX1_handNumber) := goodIn_app (goodIn_of _ (by decide +kernel)) ggX12_addArticles_X1_handNumber
set_option maxRecDepth 20000 in
theorem ggX12_addArticles_X12_mayTake : GoodIn wsX12_addArticles wsX12_mayTake := goodIn_r _ [59, 1, 60, 61, 62, 63, 31, 32, 33, 10, 34, 35, 36, 37, 38, 39, 40, 41, 26, 27, 28, 29, 30, 64, 65, 66, 67, 68, 69, 70, 71, 72, 73, 74, 75, 76, 77, 78, 79, 80, 81, 82, 83, 84, 85, 86, 87, 4, 5, 88, 89, 90, 91, 92, 93, 94, 95, 96, 97, 98, 99, 100, 101, 102, 103, 104, 105, 106, 107, 108, 17, 12, 109, 13, 14, 15, 16, 18, 110, 111, 112, 113, 114, 115, 116, 22, 117, 118, 119, 24, 25, 120, 121, 122, 123, 124, 125, 126, 127, 128, 129, 130, 131, 132, 133, 134, 135, 136, 137, 138, 139, 140, 141, 142, 143, 144, 145, 146, 147, 148, 149, 150, 151, 152, 153, 154, 155, 156, 157, 158, 159, 160, 161, 162, 163, 164, 170, 171, 172, 173, 174, 175, 176, 177, 178, 179, 180, 181, 182, 183, 184, 185, 186, 187, 218, 219, 220, 221, 222, 223, 188, 189, 190, 191, 192, 193, 194, 195, 196, 197, 198, 199, 200, 201, 202, 203, 204, 205, 206, 207, 224, 225, 226, 227, 228, 229, 230, 231, 232, 233, 234, 235] (by decide +kernel) (by decide +kernel)
set_option maxRecDepth 20000 in
theorem gX12_addArticles_X12_mayTake : GoodIn wsX12_addArticles (wsV RX12 309 RX12 yX12_mayTake wsX12_mayTake) := goodIn_app (goodIn_of _ (by decide +kernel)) ggX12_addArticles_X12_mayTake
set_option maxRecDepth 20000 in
theorem ggX12_addArticles_X1_allow : GoodIn wsX12_addArticles wsX1_allow := goodIn_r _ [168, 47, 169, 208, 209, 210, 211, 212, 213, 214, 215, 216, 217] (by decide +kernel) (by decide +kernel)
set_option maxRecDepth 20000 in
theorem gX12_addArticles_X1_allow : GoodIn wsX12_addArticles (wsV RX12 560 RX1 yX1_allow wsX1_allow) := goodIn_app (goodIn_of _ (by decide +kernel)) ggX12_addArticles_X1_allow
theorem dX12_addArticles_0 : decode cX12_addArticles 0 = .ok (.iconst 0, 1) := by decide +kernel
theorem dX12_addArticles_1 : decode cX12_addArticles 1 = .ok (.istore_n 2, 1) := by decide +kernel
theorem dX12_addArticles_2 : decode cX12_addArticles 2 = .ok (.iload_n 2, 1) := by decide +kernel
theorem dX12_addArticles_3 : decode cX12_addArticles 3 = .ok (.bipush 30, 2) := by decide +kernel
theorem dX12_addArticles_5 : decode cX12_addArticles 5 = .ok (.if_icmp .ge 131, 3) := by decide +kernel
theorem dX12_addArticles_8 : decode cX12_addArticles 8 = .ok (.iload_n 1, 1) := by decide +kernel
theorem dX12_addArticles_9 : decode cX12_addArticles 9 = .ok (.iload_n 2, 1) := by decide +kernel
theorem dX12_addArticles_10 : decode cX12_addArticles 10 = .ok (.ishr, 1) := by decide +kernel
theorem dX12_addArticles_11 : decode cX12_addArticles 11 = .ok (.iconst 1, 1) := by decide +kernel
theorem dX12_addArticles_12 : decode cX12_addArticles 12 = .ok (.iand, 1) := by decide +kernel
theorem dX12_addArticles_13 : decode cX12_addArticles 13 = .ok (.ifCond .ne 6, 3) := by decide +kernel
theorem dX12_addArticles_16 : decode cX12_addArticles 16 = .ok (.goto 114, 3) := by decide +kernel
theorem dX12_addArticles_19 : decode cX12_addArticles 19 = .ok (.aload_n 0, 1) := by decide +kernel
theorem dX12_addArticles_20 : decode cX12_addArticles 20 = .ok (.iload_n 2, 1) := by decide +kernel
theorem dX12_addArticles_21 : decode cX12_addArticles 21 = .ok (.iconst 0, 1) := by decide +kernel
theorem dX12_addArticles_22 : decode cX12_addArticles 22 = .ok (.invokevirtual 243, 3) := by decide +kernel
theorem dX12_addArticles_25 : decode cX12_addArticles 25 = .ok (.astore_n 3, 1) := by decide +kernel
theorem dX12_addArticles_26 : decode cX12_addArticles 26 = .ok (.aload_n 3, 1) := by decide +kernel
theorem dX12_addArticles_27 : decode cX12_addArticles 27 = .ok (.ifnull 37, 3) := by decide +kernel
theorem dX12_addArticles_30 : decode cX12_addArticles 30 = .ok (.aload_n 3, 1) := by decide +kernel
theorem dX12_addArticles_31 : decode cX12_addArticles 31 = .ok (.invokevirtual 306, 3) := by decide +kernel
theorem dX12_addArticles_34 : decode cX12_addArticles 34 = .ok (.ifCond .ne 30, 3) := by decide +kernel
theorem dX12_addArticles_37 : decode cX12_addArticles 37 = .ok (.aload_n 0, 1) := by decide +kernel
theorem dX12_addArticles_38 : decode cX12_addArticles 38 = .ok (.aload_n 3, 1) := by decide +kernel
theorem dX12_addArticles_39 : decode cX12_addArticles 39 = .ok (.invokevirtual 319, 3) := by decide +kernel
theorem dX12_addArticles_42 : decode cX12_addArticles 42 = .ok (.ifCond .ne 22, 3) := by decide +kernel
theorem dX12_addArticles_45 : decode cX12_addArticles 45 = .ok (.aload_n 3, 1) := by decide +kernel
theorem dX12_addArticles_46 : decode cX12_addArticles 46 = .ok (.getfield 247, 3) := by decide +kernel
theorem dX12_addArticles_49 : decode cX12_addArticles 49 = .ok (.iconst (-1), 1) := by decide +kernel
theorem dX12_addArticles_50 : decode cX12_addArticles 50 = .ok (.if_icmp .ne 14, 3) := by decide +kernel
theorem dX12_addArticles_53 : decode cX12_addArticles 53 = .ok (.aload_n 0, 1) := by decide +kernel
theorem dX12_addArticles_54 : decode cX12_addArticles 54 = .ok (.aload_n 3, 1) := by decide +kernel
theorem dX12_addArticles_55 : decode cX12_addArticles 55 = .ok (.getfield 313, 3) := by decide +kernel
theorem dX12_addArticles_58 : decode cX12_addArticles 58 = .ok (.invokevirtual 316, 3) := by decide +kernel
theorem dX12_addArticles_61 : decode cX12_addArticles 61 = .ok (.ifnull 5, 3) := by decide +kernel
theorem dX12_addArticles_64 : decode cX12_addArticles 64 = .ok (.iconst 0, 1) := by decide +kernel
theorem dX12_addArticles_65 : decode cX12_addArticles 65 = .ok (.ireturn, 1) := by decide +kernel
theorem dX12_addArticles_66 : decode cX12_addArticles 66 = .ok (.aload_n 0, 1) := by decide +kernel
theorem dX12_addArticles_67 : decode cX12_addArticles 67 = .ok (.getfield 92, 3) := by decide +kernel
theorem dX12_addArticles_70 : decode cX12_addArticles 70 = .ok (.iload_n 2, 1) := by decide +kernel
theorem dX12_addArticles_71 : decode cX12_addArticles 71 = .ok (.aload_n 3, 1) := by decide +kernel
theorem dX12_addArticles_72 : decode cX12_addArticles 72 = .ok (.getfield 183, 3) := by decide +kernel
theorem dX12_addArticles_75 : decode cX12_addArticles 75 = .ok (.aload_n 3, 1) := by decide +kernel
theorem dX12_addArticles_76 : decode cX12_addArticles 76 = .ok (.getfield 342, 3) := by decide +kernel
theorem dX12_addArticles_79 : decode cX12_addArticles 79 = .ok (.isub, 1) := by decide +kernel
theorem dX12_addArticles_80 : decode cX12_addArticles 80 = .ok (.invokevirtual 553, 3) := by decide +kernel
theorem dX12_addArticles_83 : decode cX12_addArticles 83 = .ok (.iconst 0, 1) := by decide +kernel
theorem dX12_addArticles_84 : decode cX12_addArticles 84 = .ok (.istore 4, 2) := by decide +kernel
theorem dX12_addArticles_86 : decode cX12_addArticles 86 = .ok (.iload 4, 2) := by decide +kernel
theorem dX12_addArticles_88 : decode cX12_addArticles 88 = .ok (.aload_n 0, 1) := by decide +kernel
theorem dX12_addArticles_89 : decode cX12_addArticles 89 = .ok (.getfield 92, 3) := by decide +kernel
theorem dX12_addArticles_92 : decode cX12_addArticles 92 = .ok (.getfield 556, 3) := by decide +kernel
theorem dX12_addArticles_95 : decode cX12_addArticles 95 = .ok (.if_icmp .ge 35, 3) := by decide +kernel
theorem dX12_addArticles_98 : decode cX12_addArticles 98 = .ok (.aload_n 0, 1) := by decide +kernel
theorem dX12_addArticles_99 : decode cX12_addArticles 99 = .ok (.aload_n 3, 1) := by decide +kernel
theorem dX12_addArticles_100 : decode cX12_addArticles 100 = .ok (.aload_n 0, 1) := by decide +kernel
theorem dX12_addArticles_101 : decode cX12_addArticles 101 = .ok (.getfield 92, 3) := by decide +kernel
theorem dX12_addArticles_104 : decode cX12_addArticles 104 = .ok (.iload 4, 2) := by decide +kernel
theorem dX12_addArticles_106 : decode cX12_addArticles 106 = .ok (.invokevirtual 557, 3) := by decide +kernel
theorem dX12_addArticles_109 : decode cX12_addArticles 109 = .ok (.invokevirtual 309, 3) := by decide +kernel
theorem dX12_addArticles_112 : decode cX12_addArticles 112 = .ok (.ifCond .eq 12, 3) := by decide +kernel
theorem dX12_addArticles_115 : decode cX12_addArticles 115 = .ok (.aload_n 0, 1) := by decide +kernel
theorem dX12_addArticles_116 : decode cX12_addArticles 116 = .ok (.getfield 92, 3) := by decide +kernel
theorem dX12_addArticles_119 : decode cX12_addArticles 119 = .ok (.iload 4, 2) := by decide +kernel
theorem dX12_addArticles_121 : decode cX12_addArticles 121 = .ok (.invokevirtual 560, 3) := by decide +kernel
theorem dX12_addArticles_124 : decode cX12_addArticles 124 = .ok (.iinc 4 1, 3) := by decide +kernel
theorem dX12_addArticles_127 : decode cX12_addArticles 127 = .ok (.goto (-41), 3) := by decide +kernel
theorem dX12_addArticles_130 : decode cX12_addArticles 130 = .ok (.iinc 2 1, 3) := by decide +kernel
theorem dX12_addArticles_133 : decode cX12_addArticles 133 = .ok (.goto (-131), 3) := by decide +kernel
theorem dX12_addArticles_136 : decode cX12_addArticles 136 = .ok (.iconst 1, 1) := by decide +kernel
theorem dX12_addArticles_137 : decode cX12_addArticles 137 = .ok (.ireturn, 1) := by decide +kernel
set_option maxRecDepth 20000 in
theorem ggX12_index_X12_setVolumeAt : GoodIn wsX12_index wsX12_setVolumeAt := goodIn_r _ [8, 9, 10, 11, 12, 7, 13, 14, 15, 16, 17, 18, 36, 37, 38, 39, 40, 41, 42, 52, 53, 54, 55, 56, 57, 58, 59, 60, 61, 62, 63, 64, 65, 66, 67, 68, 69, 70, 71] (by decide +kernel) (by decide +kernel)
set_option maxRecDepth 20000 in
theorem gX12_index_X12_setVolumeAt : GoodIn wsX12_index (wsV RX12 494 RX12 yX12_setVolumeAt wsX12_setVolumeAt) := goodIn_app (goodIn_of _ (by decide +kernel)) ggX12_index_X12_setVolumeAt
set_option maxRecDepth 20000 in
theorem ggX12_index_X11_laidAt : GoodIn wsX12_index wsX11_laidAt := goodIn_r _ [23, 24, 25, 36, 37, 38, 39, 40, 41, 42] (by decide +kernel) (by decide +kernel)
set_option maxRecDepth 20000 in
theorem gX12_index_X11_laidAt : GoodIn wsX12_index (wsV RX12 566 RX11 yX11_laidAt wsX11_laidAt) := goodIn_app (goodIn_of _ (by decide +kernel)) ggX12_index_X11_laidAt
set_option maxRecDepth 20000 in
theorem ggX12_index_X12_lineAt : GoodIn wsX12_index wsX12_lineAt := goodIn_r _ [29, 30, 31, 52, 53, 54, 55, 56, 57, 58, 59, 60, 61, 62, 63, 64, 65, 66, 67, 68, 69, 70, 71] (by decide +kernel) (by decide +kernel)
set_option maxRecDepth 20000 in
theorem gX12_index_X12_lineAt : GoodIn wsX12_index (wsV RX12 392 RX12 yX12_lineAt wsX12_lineAt) := goodIn_app (goodIn_of _ (by decide +kernel)) ggX12_index_X12_lineAt
set_option maxRecDepth 20000 in
theorem ggX12_index_X12_pageOf : GoodIn wsX12_index wsX12_pageOf := goodIn_r _ [35] (by decide +kernel) (by decide +kernel)
set_option maxRecDepth 20000 in
theorem gX12_index_X12_pageOf : GoodIn wsX12_index (wsV RX12 439 RX12 yX12_pageOf wsX12_pageOf) := goodIn_app (goodIn_of _ (by decide +kernel)) ggX12_index_X12_pageOf
theorem dX12_index_0 : decode cX12_index 0 = .ok (.aload_n 0, 1) := by decide +kernel
theorem dX12_index_1 : decode cX12_index 1 = .ok (.iload_n 2, 1) := by decide +kernel
theorem dX12_index_2 : decode cX12_index 2 = .ok (.invokevirtual 494, 3) := by decide +kernel
theorem dX12_index_5 : decode cX12_index 5 = .ok (.astore 4, 2) := by decide +kernel
theorem dX12_index_7 : decode cX12_index 7 = .ok (.aload 4, 2) := by decide +kernel
theorem dX12_index_9 : decode cX12_index 9 = .ok (.ifnull 7, 3) := by decide +kernel
theorem dX12_index_12 : decode cX12_index 12 = .ok (.iload_n 3, 1) := by decide +kernel
theorem dX12_index_13 : decode cX12_index 13 = .ok (.ifCond .ge 5, 3) := by decide +kernel
theorem dX12_index_16 : decode cX12_index 16 = .ok (.iconst (-1), 1) := by decide +kernel
theorem dX12_index_17 : decode cX12_index 17 = .ok (.ireturn, 1) := by decide +kernel
theorem dX12_index_18 : decode cX12_index 18 = .ok (.iconst (-1), 1) := by decide +kernel
theorem dX12_index_19 : decode cX12_index 19 = .ok (.istore 5, 2) := by decide +kernel
theorem dX12_index_21 : decode cX12_index 21 = .ok (.iconst 0, 1) := by decide +kernel
theorem dX12_index_22 : decode cX12_index 22 = .ok (.istore 6, 2) := by decide +kernel
theorem dX12_index_24 : decode cX12_index 24 = .ok (.iconst 0, 1) := by decide +kernel
theorem dX12_index_25 : decode cX12_index 25 = .ok (.istore 7, 2) := by decide +kernel
theorem dX12_index_27 : decode cX12_index 27 = .ok (.iload 7, 2) := by decide +kernel
theorem dX12_index_29 : decode cX12_index 29 = .ok (.aload 4, 2) := by decide +kernel
theorem dX12_index_31 : decode cX12_index 31 = .ok (.getfield 563, 3) := by decide +kernel
theorem dX12_index_34 : decode cX12_index 34 = .ok (.if_icmp .ge 76, 3) := by decide +kernel
theorem dX12_index_37 : decode cX12_index 37 = .ok (.aload_n 0, 1) := by decide +kernel
theorem dX12_index_38 : decode cX12_index 38 = .ok (.aload 4, 2) := by decide +kernel
theorem dX12_index_40 : decode cX12_index 40 = .ok (.iload 7, 2) := by decide +kernel
theorem dX12_index_42 : decode cX12_index 42 = .ok (.invokevirtual 566, 3) := by decide +kernel
theorem dX12_index_45 : decode cX12_index 45 = .ok (.invokevirtual 392, 3) := by decide +kernel
theorem dX12_index_48 : decode cX12_index 48 = .ok (.astore 8, 2) := by decide +kernel
theorem dX12_index_50 : decode cX12_index 50 = .ok (.aload 8, 2) := by decide +kernel
theorem dX12_index_52 : decode cX12_index 52 = .ok (.ifnull 52, 3) := by decide +kernel
theorem dX12_index_55 : decode cX12_index 55 = .ok (.aload 8, 2) := by decide +kernel
theorem dX12_index_57 : decode cX12_index 57 = .ok (.getfield 569, 3) := by decide +kernel
theorem dX12_index_60 : decode cX12_index 60 = .ok (.iload_n 1, 1) := by decide +kernel
theorem dX12_index_61 : decode cX12_index 61 = .ok (.if_icmp .ne 43, 3) := by decide +kernel
theorem dX12_index_64 : decode cX12_index 64 = .ok (.aload_n 0, 1) := by decide +kernel
theorem dX12_index_65 : decode cX12_index 65 = .ok (.aload 8, 2) := by decide +kernel
theorem dX12_index_67 : decode cX12_index 67 = .ok (.getfield 436, 3) := by decide +kernel
theorem dX12_index_70 : decode cX12_index 70 = .ok (.invokevirtual 439, 3) := by decide +kernel
theorem dX12_index_73 : decode cX12_index 73 = .ok (.iload 5, 2) := by decide +kernel
theorem dX12_index_75 : decode cX12_index 75 = .ok (.if_icmp .ne 6, 3) := by decide +kernel
theorem dX12_index_78 : decode cX12_index 78 = .ok (.goto 26, 3) := by decide +kernel
theorem dX12_index_81 : decode cX12_index 81 = .ok (.aload_n 0, 1) := by decide +kernel
theorem dX12_index_82 : decode cX12_index 82 = .ok (.aload 8, 2) := by decide +kernel
theorem dX12_index_84 : decode cX12_index 84 = .ok (.getfield 436, 3) := by decide +kernel
theorem dX12_index_87 : decode cX12_index 87 = .ok (.invokevirtual 439, 3) := by decide +kernel
theorem dX12_index_90 : decode cX12_index 90 = .ok (.istore 5, 2) := by decide +kernel
theorem dX12_index_92 : decode cX12_index 92 = .ok (.iload 6, 2) := by decide +kernel
theorem dX12_index_94 : decode cX12_index 94 = .ok (.iload_n 3, 1) := by decide +kernel
theorem dX12_index_95 : decode cX12_index 95 = .ok (.if_icmp .ne 6, 3) := by decide +kernel
theorem dX12_index_98 : decode cX12_index 98 = .ok (.iload 5, 2) := by decide +kernel
theorem dX12_index_100 : decode cX12_index 100 = .ok (.ireturn, 1) := by decide +kernel
theorem dX12_index_101 : decode cX12_index 101 = .ok (.iinc 6 1, 3) := by decide +kernel
theorem dX12_index_104 : decode cX12_index 104 = .ok (.iinc 7 1, 3) := by decide +kernel
theorem dX12_index_107 : decode cX12_index 107 = .ok (.goto (-80), 3) := by decide +kernel
theorem dX12_index_110 : decode cX12_index 110 = .ok (.iconst (-1), 1) := by decide +kernel
theorem dX12_index_111 : decode cX12_index 111 = .ok (.ireturn, 1) := by decide +kernel
set_option maxRecDepth 20000 in
theorem ggX12_steal_X10_add : GoodIn wsX12_steal wsX10_add := goodIn_r _ [6, 7, 8, 29, 30, 31] (by decide +kernel) (by decide +kernel)
set_option maxRecDepth 20000 in
theorem gX12_steal_X10_add : GoodIn wsX12_steal (wsV RX12 572 RX10 yX10_add wsX10_add) := goodIn_app (goodIn_of _ (by decide +kernel)) ggX12_steal_X10_add
theorem dX12_steal_0 : decode cX12_steal 0 = .ok (.iload_n 1, 1) := by decide +kernel
theorem dX12_steal_1 : decode cX12_steal 1 = .ok (.ifCond .lt 10, 3) := by decide +kernel
theorem dX12_steal_4 : decode cX12_steal 4 = .ok (.iload_n 1, 1) := by decide +kernel
theorem dX12_steal_5 : decode cX12_steal 5 = .ok (.sipush 999, 3) := by decide +kernel
theorem dX12_steal_8 : decode cX12_steal 8 = .ok (.if_icmp .le 7, 3) := by decide +kernel
theorem dX12_steal_11 : decode cX12_steal 11 = .ok (.iconst (-1), 1) := by decide +kernel
theorem dX12_steal_12 : decode cX12_steal 12 = .ok (.goto 11, 3) := by decide +kernel
theorem dX12_steal_15 : decode cX12_steal 15 = .ok (.aload_n 0, 1) := by decide +kernel
theorem dX12_steal_16 : decode cX12_steal 16 = .ok (.getfield 99, 3) := by decide +kernel
theorem dX12_steal_19 : decode cX12_steal 19 = .ok (.iload_n 1, 1) := by decide +kernel
theorem dX12_steal_20 : decode cX12_steal 20 = .ok (.invokevirtual 572, 3) := by decide +kernel
theorem dX12_steal_23 : decode cX12_steal 23 = .ok (.ireturn, 1) := by decide +kernel
theorem dX12_forget_0 : decode cX12_forget 0 = .ok (.aload_n 0, 1) := by decide +kernel
theorem dX12_forget_1 : decode cX12_forget 1 = .ok (.getfield 99, 3) := by decide +kernel
theorem dX12_forget_4 : decode cX12_forget 4 = .ok (.getfield 574, 3) := by decide +kernel
theorem dX12_forget_7 : decode cX12_forget 7 = .ok (.istore_n 1, 1) := by decide +kernel
theorem dX12_forget_8 : decode cX12_forget 8 = .ok (.aload_n 0, 1) := by decide +kernel
theorem dX12_forget_9 : decode cX12_forget 9 = .ok (.getfield 99, 3) := by decide +kernel
theorem dX12_forget_12 : decode cX12_forget 12 = .ok (.iconst 0, 1) := by decide +kernel
theorem dX12_forget_13 : decode cX12_forget 13 = .ok (.putfield 574, 3) := by decide +kernel
theorem dX12_forget_16 : decode cX12_forget 16 = .ok (.iload_n 1, 1) := by decide +kernel
theorem dX12_forget_17 : decode cX12_forget 17 = .ok (.ireturn, 1) := by decide +kernel
set_option maxRecDepth 20000 in
theorem ggX12_thief_X12_setVolumeAt : GoodIn wsX12_thief wsX12_setVolumeAt := goodIn_r _ [11, 12, 13, 14, 15, 10, 16, 17, 18, 19, 20, 21, 97, 98, 99, 100, 101, 102, 103, 77, 78, 79, 80, 81, 82, 83, 84, 85, 86, 87, 88, 89, 90, 91, 92, 93, 94, 95, 96] (by decide +kernel) (by decide +kernel)
set_option maxRecDepth 20000 in
theorem gX12_thief_X12_setVolumeAt : GoodIn wsX12_thief (wsV RX12 494 RX12 yX12_setVolumeAt wsX12_setVolumeAt) := goodIn_app (goodIn_of _ (by decide +kernel)) ggX12_thief_X12_setVolumeAt
set_option maxRecDepth 20000 in
theorem ggX12_thief_X10_begin : GoodIn wsX12_thief wsX10_begin := goodIn_r _ [26, 27, 113, 114, 115] (by decide +kernel) (by decide +kernel)
set_option maxRecDepth 20000 in
theorem gX12_thief_X10_begin : GoodIn wsX12_thief (wsV RX12 575 RX10 yX10_begin wsX10_begin) := goodIn_app (goodIn_of _ (by decide +kernel)) ggX12_thief_X10_begin
set_option maxRecDepth 20000 in
theorem ggX12_thief_X11_laidAt : GoodIn wsX12_thief wsX11_laidAt := goodIn_r _ [32, 33, 34, 97, 98, 99, 100, 101, 102, 103] (by decide +kernel) (by decide +kernel)
set_option maxRecDepth 20000 in
theorem gX12_thief_X11_laidAt : GoodIn wsX12_thief (wsV RX12 566 RX11 yX11_laidAt wsX11_laidAt) := goodIn_app (goodIn_of _ (by decide +kernel)) ggX12_thief_X11_laidAt
set_option maxRecDepth 20000 in
theorem ggX12_thief_X12_lineAt : GoodIn wsX12_thief wsX12_lineAt := goodIn_r _ [38, 39, 40, 77, 78, 79, 80, 81, 82, 83, 84, 85, 86, 87, 88, 89, 90, 91, 92, 93, 94, 95, 96] (by decide +kernel) (by decide +kernel)
set_option maxRecDepth 20000 in
theorem gX12_thief_X12_lineAt : GoodIn wsX12_thief (wsV RX12 392 RX12 yX12_lineAt wsX12_lineAt) := goodIn_app (goodIn_of _ (by decide +kernel)) ggX12_thief_X12_lineAt
set_option maxRecDepth 20000 in
theorem ggX12_thief_X5_valueOn : GoodIn wsX12_thief wsX5_valueOn := goodIn_r _ [45, 46, 47, 48, 49, 44, 50, 51, 52, 53, 116, 117, 118, 119, 120, 121, 122, 123, 124, 125, 126, 127] (by decide +kernel) (by decide +kernel)
set_option maxRecDepth 20000 in
theorem gX12_thief_X5_valueOn : GoodIn wsX12_thief (wsV RX12 389 RX5 yX5_valueOn wsX5_valueOn) := goodIn_app (goodIn_of _ (by decide +kernel)) ggX12_thief_X5_valueOn
set_option maxRecDepth 20000 in
theorem ggX12_thief_X10_meet : GoodIn wsX12_thief wsX10_meet := goodIn_r _ [57, 27, 58, 59, 60, 61, 62, 63, 113, 114, 115] (by decide +kernel) (by decide +kernel)
set_option maxRecDepth 20000 in
theorem gX12_thief_X10_meet : GoodIn wsX12_thief (wsV RX12 576 RX10 yX10_meet wsX10_meet) := goodIn_app (goodIn_of _ (by decide +kernel)) ggX12_thief_X10_meet
set_option maxRecDepth 20000 in
theorem ggX12_thief_X10_changes : GoodIn wsX12_thief wsX10_changes := goodIn_r _ [67, 68, 69, 70, 25, 71, 58, 27, 113, 114, 115] (by decide +kernel) (by decide +kernel)
set_option maxRecDepth 20000 in
theorem gX12_thief_X10_changes : GoodIn wsX12_thief (wsV RX12 580 RX10 yX10_changes wsX10_changes) := goodIn_app (goodIn_of _ (by decide +kernel)) ggX12_thief_X10_changes
set_option maxRecDepth 20000 in
theorem ggX12_thief_X10_shared : GoodIn wsX12_thief wsX10_shared := goodIn_r _ [75, 76, 65, 66, 25, 67, 68, 69, 70, 71, 58, 27, 113, 114, 115] (by decide +kernel) (by decide +kernel)
set_option maxRecDepth 20000 in
theorem gX12_thief_X10_shared : GoodIn wsX12_thief (wsV RX12 583 RX10 yX10_shared wsX10_shared) := goodIn_app (goodIn_of _ (by decide +kernel)) ggX12_thief_X10_shared
theorem dX12_thief_0 : decode cX12_thief 0 = .ok (.aload_n 0, 1) := by decide +kernel
theorem dX12_thief_1 : decode cX12_thief 1 = .ok (.iload_n 1, 1) := by decide +kernel
theorem dX12_thief_2 : decode cX12_thief 2 = .ok (.invokevirtual 494, 3) := by decide +kernel
theorem dX12_thief_5 : decode cX12_thief 5 = .ok (.astore_n 3, 1) := by decide +kernel
theorem dX12_thief_6 : decode cX12_thief 6 = .ok (.aload_n 3, 1) := by decide +kernel
theorem dX12_thief_7 : decode cX12_thief 7 = .ok (.ifnull 12, 3) := by decide +kernel
theorem dX12_thief_10 : decode cX12_thief 10 = .ok (.iload_n 2, 1) := by decide +kernel
theorem dX12_thief_11 : decode cX12_thief 11 = .ok (.ifCond .lt 8, 3) := by decide +kernel
theorem dX12_thief_14 : decode cX12_thief 14 = .ok (.iload_n 2, 1) := by decide +kernel
theorem dX12_thief_15 : decode cX12_thief 15 = .ok (.iconst 1, 1) := by decide +kernel
theorem dX12_thief_16 : decode cX12_thief 16 = .ok (.if_icmp .le 5, 3) := by decide +kernel
theorem dX12_thief_19 : decode cX12_thief 19 = .ok (.iconst (-1), 1) := by decide +kernel
theorem dX12_thief_20 : decode cX12_thief 20 = .ok (.ireturn, 1) := by decide +kernel
theorem dX12_thief_21 : decode cX12_thief 21 = .ok (.aload_n 0, 1) := by decide +kernel
theorem dX12_thief_22 : decode cX12_thief 22 = .ok (.getfield 99, 3) := by decide +kernel
theorem dX12_thief_25 : decode cX12_thief 25 = .ok (.invokevirtual 575, 3) := by decide +kernel
theorem dX12_thief_28 : decode cX12_thief 28 = .ok (.iconst 0, 1) := by decide +kernel
theorem dX12_thief_29 : decode cX12_thief 29 = .ok (.istore 4, 2) := by decide +kernel
theorem dX12_thief_31 : decode cX12_thief 31 = .ok (.iload 4, 2) := by decide +kernel
theorem dX12_thief_33 : decode cX12_thief 33 = .ok (.aload_n 3, 1) := by decide +kernel
theorem dX12_thief_34 : decode cX12_thief 34 = .ok (.getfield 563, 3) := by decide +kernel
theorem dX12_thief_37 : decode cX12_thief 37 = .ok (.if_icmp .ge 76, 3) := by decide +kernel
theorem dX12_thief_40 : decode cX12_thief 40 = .ok (.aload_n 0, 1) := by decide +kernel
theorem dX12_thief_41 : decode cX12_thief 41 = .ok (.aload_n 3, 1) := by decide +kernel
theorem dX12_thief_42 : decode cX12_thief 42 = .ok (.iload 4, 2) := by decide +kernel
theorem dX12_thief_44 : decode cX12_thief 44 = .ok (.invokevirtual 566, 3) := by decide +kernel
theorem dX12_thief_47 : decode cX12_thief 47 = .ok (.invokevirtual 392, 3) := by decide +kernel
theorem dX12_thief_50 : decode cX12_thief 50 = .ok (.astore 5, 2) := by decide +kernel
theorem dX12_thief_52 : decode cX12_thief 52 = .ok (.aload 5, 2) := by decide +kernel
theorem dX12_thief_54 : decode cX12_thief 54 = .ok (.ifnull 53, 3) := by decide +kernel
theorem dX12_thief_57 : decode cX12_thief 57 = .ok (.aload 5, 2) := by decide +kernel
theorem dX12_thief_59 : decode cX12_thief 59 = .ok (.getfield 385, 3) := by decide +kernel
theorem dX12_thief_62 : decode cX12_thief 62 = .ok (.iconst (-1), 1) := by decide +kernel
theorem dX12_thief_63 : decode cX12_thief 63 = .ok (.if_icmp .eq 44, 3) := by decide +kernel
theorem dX12_thief_66 : decode cX12_thief 66 = .ok (.aload_n 0, 1) := by decide +kernel
theorem dX12_thief_67 : decode cX12_thief 67 = .ok (.getfield 99, 3) := by decide +kernel
theorem dX12_thief_70 : decode cX12_thief 70 = .ok (.aload 5, 2) := by decide +kernel
theorem dX12_thief_72 : decode cX12_thief 72 = .ok (.getfield 399, 3) := by decide +kernel
theorem dX12_thief_75 : decode cX12_thief 75 = .ok (.aload_n 0, 1) := by decide +kernel
theorem dX12_thief_76 : decode cX12_thief 76 = .ok (.getfield 66, 3) := by decide +kernel
theorem dX12_thief_79 : decode cX12_thief 79 = .ok (.aload 5, 2) := by decide +kernel
theorem dX12_thief_81 : decode cX12_thief 81 = .ok (.getfield 385, 3) := by decide +kernel
theorem dX12_thief_84 : decode cX12_thief 84 = .ok (.aload_n 0, 1) := by decide +kernel
theorem dX12_thief_85 : decode cX12_thief 85 = .ok (.getfield 133, 3) := by decide +kernel
theorem dX12_thief_88 : decode cX12_thief 88 = .ok (.invokevirtual 389, 3) := by decide +kernel
theorem dX12_thief_91 : decode cX12_thief 91 = .ok (.aload 5, 2) := by decide +kernel
theorem dX12_thief_93 : decode cX12_thief 93 = .ok (.getfield 399, 3) := by decide +kernel
theorem dX12_thief_96 : decode cX12_thief 96 = .ok (.if_icmp .eq 7, 3) := by decide +kernel
theorem dX12_thief_99 : decode cX12_thief 99 = .ok (.iconst 1, 1) := by decide +kernel
theorem dX12_thief_100 : decode cX12_thief 100 = .ok (.goto 4, 3) := by decide +kernel
theorem dX12_thief_103 : decode cX12_thief 103 = .ok (.iconst 0, 1) := by decide +kernel
theorem dX12_thief_104 : decode cX12_thief 104 = .ok (.invokevirtual 576, 3) := by decide +kernel
theorem dX12_thief_107 : decode cX12_thief 107 = .ok (.iinc 4 1, 3) := by decide +kernel
theorem dX12_thief_110 : decode cX12_thief 110 = .ok (.goto (-79), 3) := by decide +kernel
theorem dX12_thief_113 : decode cX12_thief 113 = .ok (.iload_n 2, 1) := by decide +kernel
theorem dX12_thief_114 : decode cX12_thief 114 = .ok (.ifCond .ne 13, 3) := by decide +kernel
theorem dX12_thief_117 : decode cX12_thief 117 = .ok (.aload_n 0, 1) := by decide +kernel
theorem dX12_thief_118 : decode cX12_thief 118 = .ok (.getfield 99, 3) := by decide +kernel
theorem dX12_thief_121 : decode cX12_thief 121 = .ok (.invokevirtual 580, 3) := by decide +kernel
theorem dX12_thief_124 : decode cX12_thief 124 = .ok (.goto 10, 3) := by decide +kernel
theorem dX12_thief_127 : decode cX12_thief 127 = .ok (.aload_n 0, 1) := by decide +kernel
theorem dX12_thief_128 : decode cX12_thief 128 = .ok (.getfield 99, 3) := by decide +kernel
theorem dX12_thief_131 : decode cX12_thief 131 = .ok (.invokevirtual 583, 3) := by decide +kernel
theorem dX12_thief_134 : decode cX12_thief 134 = .ok (.ireturn, 1) := by decide +kernel
set_option maxRecDepth 20000 in
theorem ggX12_is_X12_entryAt : GoodIn wsX12_is wsX12_entryAt := goodIn_r _ [9, 10, 11, 77, 78, 79, 80, 81, 82, 83, 84, 85, 86, 87, 88, 89, 90, 91, 92, 93, 94, 95, 96] (by decide +kernel) (by decide +kernel)
set_option maxRecDepth 20000 in
theorem gX12_is_X12_entryAt : GoodIn wsX12_is (wsV RX12 189 RX12 yX12_entryAt wsX12_entryAt) := goodIn_app (goodIn_of _ (by decide +kernel)) ggX12_is_X12_entryAt
set_option maxRecDepth 20000 in
theorem ggX12_is_X12_isStruck : GoodIn wsX12_is wsX12_isStruck := goodIn_r _ [15, 16, 59, 60, 61, 62, 63, 64, 65, 66, 67, 68, 69, 70, 71, 72, 73, 74, 75, 76] (by decide +kernel) (by decide +kernel)
set_option maxRecDepth 20000 in
theorem gX12_is_X12_isStruck : GoodIn wsX12_is (wsV RX12 319 RX12 yX12_isStruck wsX12_isStruck) := goodIn_app (goodIn_of _ (by decide +kernel)) ggX12_is_X12_isStruck
set_option maxRecDepth 20000 in
theorem ggX12_is_X12_isLater : GoodIn wsX12_is wsX12_isLater := goodIn_r _ [20, 3, 16, 4, 21, 22, 23, 8, 24, 25, 59, 60, 61, 62, 63, 64, 65, 66, 67, 68, 69, 70, 71, 72, 73, 74, 75, 76, 77, 78, 79, 80, 81, 82, 83, 84, 85, 86, 87, 88, 89, 90, 91, 92, 93, 94, 95, 96] (by decide +kernel) (by decide +kernel)
set_option maxRecDepth 20000 in
theorem gX12_is_X12_isLater : GoodIn wsX12_is (wsV RX12 256 RX12 yX12_isLater wsX12_isLater) := goodIn_app (goodIn_of _ (by decide +kernel)) ggX12_is_X12_isLater
set_option maxRecDepth 20000 in
theorem ggX12_is_X12_isSet : GoodIn wsX12_is wsX12_isSet := goodIn_r _ [24, 25, 77, 78, 79, 80, 81, 82, 83, 84, 85, 86, 87, 88, 89, 90, 91, 92, 93, 94, 95, 96] (by decide +kernel) (by decide +kernel)
set_option maxRecDepth 20000 in
theorem gX12_is_X12_isSet : GoodIn wsX12_is (wsV RX12 130 RX12 yX12_isSet wsX12_isSet) := goodIn_app (goodIn_of _ (by decide +kernel)) ggX12_is_X12_isSet
set_option maxRecDepth 20000 in
theorem ggX12_is_X12_ofArticle : GoodIn wsX12_is wsX12_ofArticle := goodIn_r _ [29, 30, 31, 32, 33, 34, 35, 36, 37, 38, 39, 40, 41, 42, 43, 8, 44, 45, 46, 47, 48, 49, 50, 51, 52, 53, 54, 55, 56, 57, 58, 59, 60, 61, 62, 63, 64, 65, 66, 67, 68, 69, 70, 71, 72, 73, 74, 75, 76, 97, 98, 99, 100, 101, 102, 77, 78, 79, 80, 81, 82, 83, 84, 85, 86, 87, 88, 89, 90, 91, 92, 93, 94, 95, 96] (by decide +kernel) (by decide +kernel)
set_option maxRecDepth 20000 in
theorem gX12_is_X12_ofArticle : GoodIn wsX12_is (wsV RX12 586 RX12 yX12_ofArticle wsX12_ofArticle) := goodIn_app (goodIn_of _ (by decide +kernel)) ggX12_is_X12_ofArticle
theorem dX12_is_0 : decode cX12_is 0 = .ok (.aload_n 0, 1) := by decide +kernel
theorem dX12_is_1 : decode cX12_is 1 = .ok (.iload_n 1, 1) := by decide +kernel
theorem dX12_is_2 : decode cX12_is 2 = .ok (.invokevirtual 189, 3) := by decide +kernel
theorem dX12_is_5 : decode cX12_is 5 = .ok (.astore_n 3, 1) := by decide +kernel
theorem dX12_is_6 : decode cX12_is 6 = .ok (.aload_n 3, 1) := by decide +kernel
theorem dX12_is_7 : decode cX12_is 7 = .ok (.ifnonnull 5, 3) := by decide +kernel
theorem dX12_is_10 : decode cX12_is 10 = .ok (.iconst (-1), 1) := by decide +kernel
theorem dX12_is_11 : decode cX12_is 11 = .ok (.ireturn, 1) := by decide +kernel
theorem dX12_is_12 : decode cX12_is 12 = .ok (.iload_n 2, 1) := by decide +kernel
theorem dX12_is_13 : decode cX12_is 13 = .ok (.tableswitch 116 0 9 #[55, 116, 116, 116, 60, 116, 116, 65, 116, 91], 55) := by decide +kernel
theorem dX12_is_68 : decode cX12_is 68 = .ok (.aload_n 3, 1) := by decide +kernel
theorem dX12_is_69 : decode cX12_is 69 = .ok (.getfield 240, 3) := by decide +kernel
theorem dX12_is_72 : decode cX12_is 72 = .ok (.ireturn, 1) := by decide +kernel
theorem dX12_is_73 : decode cX12_is 73 = .ok (.aload_n 3, 1) := by decide +kernel
theorem dX12_is_74 : decode cX12_is 74 = .ok (.getfield 342, 3) := by decide +kernel
theorem dX12_is_77 : decode cX12_is 77 = .ok (.ireturn, 1) := by decide +kernel
theorem dX12_is_78 : decode cX12_is 78 = .ok (.aload_n 0, 1) := by decide +kernel
theorem dX12_is_79 : decode cX12_is 79 = .ok (.aload_n 3, 1) := by decide +kernel
theorem dX12_is_80 : decode cX12_is 80 = .ok (.invokevirtual 319, 3) := by decide +kernel
theorem dX12_is_83 : decode cX12_is 83 = .ok (.ifCond .eq 7, 3) := by decide +kernel
theorem dX12_is_86 : decode cX12_is 86 = .ok (.iconst 1, 1) := by decide +kernel
theorem dX12_is_87 : decode cX12_is 87 = .ok (.goto 16, 3) := by decide +kernel
theorem dX12_is_90 : decode cX12_is 90 = .ok (.aload_n 0, 1) := by decide +kernel
theorem dX12_is_91 : decode cX12_is 91 = .ok (.aload_n 3, 1) := by decide +kernel
theorem dX12_is_92 : decode cX12_is 92 = .ok (.invokevirtual 256, 3) := by decide +kernel
theorem dX12_is_95 : decode cX12_is 95 = .ok (.ifCond .eq 7, 3) := by decide +kernel
theorem dX12_is_98 : decode cX12_is 98 = .ok (.iconst 2, 1) := by decide +kernel
theorem dX12_is_99 : decode cX12_is 99 = .ok (.goto 4, 3) := by decide +kernel
theorem dX12_is_102 : decode cX12_is 102 = .ok (.iconst 0, 1) := by decide +kernel
theorem dX12_is_103 : decode cX12_is 103 = .ok (.ireturn, 1) := by decide +kernel
theorem dX12_is_104 : decode cX12_is 104 = .ok (.aload_n 3, 1) := by decide +kernel
theorem dX12_is_105 : decode cX12_is 105 = .ok (.getfield 247, 3) := by decide +kernel
theorem dX12_is_108 : decode cX12_is 108 = .ok (.iconst (-1), 1) := by decide +kernel
theorem dX12_is_109 : decode cX12_is 109 = .ok (.if_icmp .ne 14, 3) := by decide +kernel
theorem dX12_is_112 : decode cX12_is 112 = .ok (.aload_n 0, 1) := by decide +kernel
theorem dX12_is_113 : decode cX12_is 113 = .ok (.aload_n 3, 1) := by decide +kernel
theorem dX12_is_114 : decode cX12_is 114 = .ok (.getfield 220, 3) := by decide +kernel
theorem dX12_is_117 : decode cX12_is 117 = .ok (.invokevirtual 130, 3) := by decide +kernel
theorem dX12_is_120 : decode cX12_is 120 = .ok (.ifCond .eq 7, 3) := by decide +kernel
theorem dX12_is_123 : decode cX12_is 123 = .ok (.iconst 1, 1) := by decide +kernel
theorem dX12_is_124 : decode cX12_is 124 = .ok (.goto 4, 3) := by decide +kernel
theorem dX12_is_127 : decode cX12_is 127 = .ok (.iconst 0, 1) := by decide +kernel
theorem dX12_is_128 : decode cX12_is 128 = .ok (.ireturn, 1) := by decide +kernel
theorem dX12_is_129 : decode cX12_is 129 = .ok (.aload_n 3, 1) := by decide +kernel
theorem dX12_is_130 : decode cX12_is 130 = .ok (.getfield 240, 3) := by decide +kernel
theorem dX12_is_133 : decode cX12_is 133 = .ok (.ifCond .ne 12, 3) := by decide +kernel
theorem dX12_is_136 : decode cX12_is 136 = .ok (.aload_n 0, 1) := by decide +kernel
theorem dX12_is_137 : decode cX12_is 137 = .ok (.aload_n 3, 1) := by decide +kernel
theorem dX12_is_138 : decode cX12_is 138 = .ok (.iload_n 2, 1) := by decide +kernel
theorem dX12_is_139 : decode cX12_is 139 = .ok (.invokevirtual 586, 3) := by decide +kernel
theorem dX12_is_142 : decode cX12_is 142 = .ok (.goto 4, 3) := by decide +kernel
theorem dX12_is_145 : decode cX12_is 145 = .ok (.iconst (-1), 1) := by decide +kernel
theorem dX12_is_146 : decode cX12_is 146 = .ok (.ireturn, 1) := by decide +kernel
set_option maxRecDepth 20000 in
theorem ggX12_ofArticle_X0_isDone : GoodIn wsX12_ofArticle wsX0_isDone := goodIn_r _ [9, 10, 11, 31, 32, 33, 34, 35, 36, 37, 38, 39, 40, 41, 42, 43, 44, 45, 46, 47, 48] (by decide +kernel) (by decide +kernel)
set_option maxRecDepth 20000 in
theorem gX12_ofArticle_X0_isDone : GoodIn wsX12_ofArticle (wsV RX12 306 RX0 yX0_isDone wsX0_isDone) := goodIn_app (goodIn_of _ (by decide +kernel)) ggX12_ofArticle_X0_isDone
set_option maxRecDepth 20000 in
theorem ggX12_ofArticle_X12_hangs : GoodIn wsX12_ofArticle wsX12_hangs := goodIn_r _ [16, 4, 17, 18, 19, 20, 15, 21, 22, 23, 24, 25, 26, 8, 27, 28, 29, 10, 11, 30, 31, 32, 33, 34, 35, 36, 37, 38, 39, 40, 41, 42, 43, 44, 45, 46, 47, 48, 49, 50, 51, 52, 53, 54, 55, 56, 57, 58, 59, 60, 61, 62, 63, 64, 65, 66, 67, 68, 69, 70, 71, 72, 73, 74] (by decide +kernel) (by decide +kernel)
set_option maxRecDepth 20000 in
theorem gX12_ofArticle_X12_hangs : GoodIn wsX12_ofArticle (wsV RX12 405 RX12 yX12_hangs wsX12_hangs) := goodIn_app (goodIn_of _ (by decide +kernel)) ggX12_ofArticle_X12_hangs
theorem dX12_ofArticle_0 : decode cX12_ofArticle 0 = .ok (.iload_n 2, 1) := by decide +kernel
theorem dX12_ofArticle_1 : decode cX12_ofArticle 1 = .ok (.tableswitch 94 1 8 #[47, 52, 57, 94, 62, 67, 94, 80], 47) := by decide +kernel
theorem dX12_ofArticle_48 : decode cX12_ofArticle 48 = .ok (.aload_n 1, 1) := by decide +kernel
theorem dX12_ofArticle_49 : decode cX12_ofArticle 49 = .ok (.getfield 177, 3) := by decide +kernel
theorem dX12_ofArticle_52 : decode cX12_ofArticle 52 = .ok (.ireturn, 1) := by decide +kernel
theorem dX12_ofArticle_53 : decode cX12_ofArticle 53 = .ok (.aload_n 1, 1) := by decide +kernel
theorem dX12_ofArticle_54 : decode cX12_ofArticle 54 = .ok (.getfield 180, 3) := by decide +kernel
theorem dX12_ofArticle_57 : decode cX12_ofArticle 57 = .ok (.ireturn, 1) := by decide +kernel
theorem dX12_ofArticle_58 : decode cX12_ofArticle 58 = .ok (.aload_n 1, 1) := by decide +kernel
theorem dX12_ofArticle_59 : decode cX12_ofArticle 59 = .ok (.getfield 183, 3) := by decide +kernel
theorem dX12_ofArticle_62 : decode cX12_ofArticle 62 = .ok (.ireturn, 1) := by decide +kernel
theorem dX12_ofArticle_63 : decode cX12_ofArticle 63 = .ok (.aload_n 1, 1) := by decide +kernel
theorem dX12_ofArticle_64 : decode cX12_ofArticle 64 = .ok (.getfield 313, 3) := by decide +kernel
theorem dX12_ofArticle_67 : decode cX12_ofArticle 67 = .ok (.ireturn, 1) := by decide +kernel
theorem dX12_ofArticle_68 : decode cX12_ofArticle 68 = .ok (.aload_n 1, 1) := by decide +kernel
theorem dX12_ofArticle_69 : decode cX12_ofArticle 69 = .ok (.invokevirtual 306, 3) := by decide +kernel
theorem dX12_ofArticle_72 : decode cX12_ofArticle 72 = .ok (.ifCond .eq 7, 3) := by decide +kernel
theorem dX12_ofArticle_75 : decode cX12_ofArticle 75 = .ok (.iconst 1, 1) := by decide +kernel
theorem dX12_ofArticle_76 : decode cX12_ofArticle 76 = .ok (.goto 4, 3) := by decide +kernel
theorem dX12_ofArticle_79 : decode cX12_ofArticle 79 = .ok (.iconst 0, 1) := by decide +kernel
theorem dX12_ofArticle_80 : decode cX12_ofArticle 80 = .ok (.ireturn, 1) := by decide +kernel
theorem dX12_ofArticle_81 : decode cX12_ofArticle 81 = .ok (.aload_n 0, 1) := by decide +kernel
theorem dX12_ofArticle_82 : decode cX12_ofArticle 82 = .ok (.aload_n 1, 1) := by decide +kernel
theorem dX12_ofArticle_83 : decode cX12_ofArticle 83 = .ok (.invokevirtual 405, 3) := by decide +kernel
theorem dX12_ofArticle_86 : decode cX12_ofArticle 86 = .ok (.ifCond .eq 7, 3) := by decide +kernel
theorem dX12_ofArticle_89 : decode cX12_ofArticle 89 = .ok (.iconst 1, 1) := by decide +kernel
theorem dX12_ofArticle_90 : decode cX12_ofArticle 90 = .ok (.goto 4, 3) := by decide +kernel
theorem dX12_ofArticle_93 : decode cX12_ofArticle 93 = .ok (.iconst 0, 1) := by decide +kernel
theorem dX12_ofArticle_94 : decode cX12_ofArticle 94 = .ok (.ireturn, 1) := by decide +kernel
theorem dX12_ofArticle_95 : decode cX12_ofArticle 95 = .ok (.iconst (-1), 1) := by decide +kernel
theorem dX12_ofArticle_96 : decode cX12_ofArticle 96 = .ok (.ireturn, 1) := by decide +kernel
set_option maxRecDepth 20000 in
theorem ggX12_count_X12_payOfAll : GoodIn wsX12_count wsX12_payOfAll := goodIn_r _ [16, 3, 17, 18, 19, 20, 15, 21, 22, 28, 29, 30, 31, 32, 33, 34, 35, 36, 37, 38, 39, 40, 41, 42, 43, 44, 45, 46, 47, 83, 84, 85, 86, 87, 88] (by decide +kernel) (by decide +kernel)
set_option maxRecDepth 20000 in
theorem gX12_count_X12_payOfAll : GoodIn wsX12_count (wsV RX12 596 RX12 yX12_payOfAll wsX12_payOfAll) := goodIn_app (goodIn_of _ (by decide +kernel)) ggX12_count_X12_payOfAll
set_option maxRecDepth 20000 in
theorem ggX12_count_X12_countOfHand : GoodIn wsX12_count wsX12_countOfHand := goodIn_r _ [26, 17, 27, 18, 19, 20, 15, 21, 3, 22, 83, 84, 85, 86, 87, 88, 28, 29, 30, 31, 32, 33, 34, 35, 36, 37, 38, 39, 40, 41, 42, 43, 44, 45, 46, 47] (by decide +kernel) (by decide +kernel)
set_option maxRecDepth 20000 in
theorem gX12_count_X12_countOfHand : GoodIn wsX12_count (wsV RX12 599 RX12 yX12_countOfHand wsX12_countOfHand) := goodIn_app (goodIn_of _ (by decide +kernel)) ggX12_count_X12_countOfHand
theorem dX12_count_0 : decode cX12_count 0 = .ok (.iload_n 1, 1) := by decide +kernel
theorem dX12_count_1 : decode cX12_count 1 = .ok (.tableswitch 105 0 8 #[51, 56, 61, 66, 71, 79, 87, 92, 100], 51) := by decide +kernel
theorem dX12_count_52 : decode cX12_count 52 = .ok (.aload_n 0, 1) := by decide +kernel
theorem dX12_count_53 : decode cX12_count 53 = .ok (.getfield 133, 3) := by decide +kernel
theorem dX12_count_56 : decode cX12_count 56 = .ok (.ireturn, 1) := by decide +kernel
theorem dX12_count_57 : decode cX12_count 57 = .ok (.aload_n 0, 1) := by decide +kernel
theorem dX12_count_58 : decode cX12_count 58 = .ok (.getfield 203, 3) := by decide +kernel
theorem dX12_count_61 : decode cX12_count 61 = .ok (.ireturn, 1) := by decide +kernel
theorem dX12_count_62 : decode cX12_count 62 = .ok (.aload_n 0, 1) := by decide +kernel
theorem dX12_count_63 : decode cX12_count 63 = .ok (.getfield 292, 3) := by decide +kernel
theorem dX12_count_66 : decode cX12_count 66 = .ok (.ireturn, 1) := by decide +kernel
theorem dX12_count_67 : decode cX12_count 67 = .ok (.aload_n 0, 1) := by decide +kernel
theorem dX12_count_68 : decode cX12_count 68 = .ok (.getfield 370, 3) := by decide +kernel
theorem dX12_count_71 : decode cX12_count 71 = .ok (.ireturn, 1) := by decide +kernel
theorem dX12_count_72 : decode cX12_count 72 = .ok (.aload_n 0, 1) := by decide +kernel
theorem dX12_count_73 : decode cX12_count 73 = .ok (.getfield 19, 3) := by decide +kernel
theorem dX12_count_76 : decode cX12_count 76 = .ok (.getfield 590, 3) := by decide +kernel
theorem dX12_count_79 : decode cX12_count 79 = .ok (.ireturn, 1) := by decide +kernel
theorem dX12_count_80 : decode cX12_count 80 = .ok (.aload_n 0, 1) := by decide +kernel
theorem dX12_count_81 : decode cX12_count 81 = .ok (.getfield 66, 3) := by decide +kernel
theorem dX12_count_84 : decode cX12_count 84 = .ok (.getfield 593, 3) := by decide +kernel
theorem dX12_count_87 : decode cX12_count 87 = .ok (.ireturn, 1) := by decide +kernel
theorem dX12_count_88 : decode cX12_count 88 = .ok (.aload_n 0, 1) := by decide +kernel
theorem dX12_count_89 : decode cX12_count 89 = .ok (.getfield 158, 3) := by decide +kernel
theorem dX12_count_92 : decode cX12_count 92 = .ok (.ireturn, 1) := by decide +kernel
theorem dX12_count_93 : decode cX12_count 93 = .ok (.aload_n 0, 1) := by decide +kernel
theorem dX12_count_94 : decode cX12_count 94 = .ok (.getfield 10, 3) := by decide +kernel
theorem dX12_count_97 : decode cX12_count 97 = .ok (.getfield 103, 3) := by decide +kernel
theorem dX12_count_100 : decode cX12_count 100 = .ok (.ireturn, 1) := by decide +kernel
theorem dX12_count_101 : decode cX12_count 101 = .ok (.aload_n 0, 1) := by decide +kernel
theorem dX12_count_102 : decode cX12_count 102 = .ok (.invokevirtual 596, 3) := by decide +kernel
theorem dX12_count_105 : decode cX12_count 105 = .ok (.ireturn, 1) := by decide +kernel
theorem dX12_count_106 : decode cX12_count 106 = .ok (.aload_n 0, 1) := by decide +kernel
theorem dX12_count_107 : decode cX12_count 107 = .ok (.iload_n 1, 1) := by decide +kernel
theorem dX12_count_108 : decode cX12_count 108 = .ok (.invokevirtual 599, 3) := by decide +kernel
theorem dX12_count_111 : decode cX12_count 111 = .ok (.ireturn, 1) := by decide +kernel
set_option maxRecDepth 20000 in
theorem ggX12_payOfAll_X12_handAt : GoodIn wsX12_payOfAll wsX12_handAt := goodIn_r _ [7, 1, 8, 9, 10, 11, 12, 13, 14, 15, 16, 17, 18, 19, 20, 21, 22, 23, 24, 25, 26, 27, 28] (by decide +kernel) (by decide +kernel)
set_option maxRecDepth 20000 in
theorem gX12_payOfAll_X12_handAt : GoodIn wsX12_payOfAll (wsV RX12 296 RX12 yX12_handAt wsX12_handAt) := goodIn_app (goodIn_of _ (by decide +kernel)) ggX12_payOfAll_X12_handAt
theorem dX12_payOfAll_0 : decode cX12_payOfAll 0 = .ok (.iconst 0, 1) := by decide +kernel
theorem dX12_payOfAll_1 : decode cX12_payOfAll 1 = .ok (.istore_n 1, 1) := by decide +kernel
theorem dX12_payOfAll_2 : decode cX12_payOfAll 2 = .ok (.iconst 0, 1) := by decide +kernel
theorem dX12_payOfAll_3 : decode cX12_payOfAll 3 = .ok (.istore_n 2, 1) := by decide +kernel
theorem dX12_payOfAll_4 : decode cX12_payOfAll 4 = .ok (.iload_n 2, 1) := by decide +kernel
theorem dX12_payOfAll_5 : decode cX12_payOfAll 5 = .ok (.aload_n 0, 1) := by decide +kernel
theorem dX12_payOfAll_6 : decode cX12_payOfAll 6 = .ok (.getfield 292, 3) := by decide +kernel
theorem dX12_payOfAll_9 : decode cX12_payOfAll 9 = .ok (.if_icmp .ge 30, 3) := by decide +kernel
theorem dX12_payOfAll_12 : decode cX12_payOfAll 12 = .ok (.aload_n 0, 1) := by decide +kernel
theorem dX12_payOfAll_13 : decode cX12_payOfAll 13 = .ok (.iload_n 2, 1) := by decide +kernel
theorem dX12_payOfAll_14 : decode cX12_payOfAll 14 = .ok (.invokevirtual 296, 3) := by decide +kernel
theorem dX12_payOfAll_17 : decode cX12_payOfAll 17 = .ok (.astore_n 3, 1) := by decide +kernel
theorem dX12_payOfAll_18 : decode cX12_payOfAll 18 = .ok (.iload_n 1, 1) := by decide +kernel
theorem dX12_payOfAll_19 : decode cX12_payOfAll 19 = .ok (.aload_n 3, 1) := by decide +kernel
theorem dX12_payOfAll_20 : decode cX12_payOfAll 20 = .ok (.ifnonnull 7, 3) := by decide +kernel
theorem dX12_payOfAll_23 : decode cX12_payOfAll 23 = .ok (.iconst 0, 1) := by decide +kernel
theorem dX12_payOfAll_24 : decode cX12_payOfAll 24 = .ok (.goto 7, 3) := by decide +kernel
theorem dX12_payOfAll_27 : decode cX12_payOfAll 27 = .ok (.aload_n 3, 1) := by decide +kernel
theorem dX12_payOfAll_28 : decode cX12_payOfAll 28 = .ok (.getfield 388, 3) := by decide +kernel
theorem dX12_payOfAll_31 : decode cX12_payOfAll 31 = .ok (.iadd, 1) := by decide +kernel
theorem dX12_payOfAll_32 : decode cX12_payOfAll 32 = .ok (.istore_n 1, 1) := by decide +kernel
theorem dX12_payOfAll_33 : decode cX12_payOfAll 33 = .ok (.iinc 2 1, 3) := by decide +kernel
theorem dX12_payOfAll_36 : decode cX12_payOfAll 36 = .ok (.goto (-32), 3) := by decide +kernel
theorem dX12_payOfAll_39 : decode cX12_payOfAll 39 = .ok (.iload_n 1, 1) := by decide +kernel
theorem dX12_payOfAll_40 : decode cX12_payOfAll 40 = .ok (.ireturn, 1) := by decide +kernel
set_option maxRecDepth 20000 in
theorem ggX12_countOfHand_X12_handAt : GoodIn wsX12_countOfHand wsX12_handAt := goodIn_r _ [7, 8, 9, 16, 17, 18, 19, 20, 21, 22, 23, 24, 25, 26, 27, 28, 29, 30, 31, 32, 33, 34, 35] (by decide +kernel) (by decide +kernel)
set_option maxRecDepth 20000 in
theorem gX12_countOfHand_X12_handAt : GoodIn wsX12_countOfHand (wsV RX12 296 RX12 yX12_handAt wsX12_handAt) := goodIn_app (goodIn_of _ (by decide +kernel)) ggX12_countOfHand_X12_handAt
theorem dX12_countOfHand_0 : decode cX12_countOfHand 0 = .ok (.iload_n 1, 1) := by decide +kernel
theorem dX12_countOfHand_1 : decode cX12_countOfHand 1 = .ok (.bipush 10, 2) := by decide +kernel
theorem dX12_countOfHand_3 : decode cX12_countOfHand 3 = .ok (.if_icmp .lt 13, 3) := by decide +kernel
theorem dX12_countOfHand_6 : decode cX12_countOfHand 6 = .ok (.iload_n 1, 1) := by decide +kernel
theorem dX12_countOfHand_7 : decode cX12_countOfHand 7 = .ok (.bipush 22, 2) := by decide +kernel
theorem dX12_countOfHand_9 : decode cX12_countOfHand 9 = .ok (.if_icmp .ge 7, 3) := by decide +kernel
theorem dX12_countOfHand_12 : decode cX12_countOfHand 12 = .ok (.iconst 1, 1) := by decide +kernel
theorem dX12_countOfHand_13 : decode cX12_countOfHand 13 = .ok (.goto 4, 3) := by decide +kernel
theorem dX12_countOfHand_16 : decode cX12_countOfHand 16 = .ok (.iconst 0, 1) := by decide +kernel
theorem dX12_countOfHand_17 : decode cX12_countOfHand 17 = .ok (.istore_n 2, 1) := by decide +kernel
theorem dX12_countOfHand_18 : decode cX12_countOfHand 18 = .ok (.iload_n 1, 1) := by decide +kernel
theorem dX12_countOfHand_19 : decode cX12_countOfHand 19 = .ok (.bipush 30, 2) := by decide +kernel
theorem dX12_countOfHand_21 : decode cX12_countOfHand 21 = .ok (.if_icmp .lt 13, 3) := by decide +kernel
theorem dX12_countOfHand_24 : decode cX12_countOfHand 24 = .ok (.iload_n 1, 1) := by decide +kernel
theorem dX12_countOfHand_25 : decode cX12_countOfHand 25 = .ok (.bipush 42, 2) := by decide +kernel
theorem dX12_countOfHand_27 : decode cX12_countOfHand 27 = .ok (.if_icmp .ge 7, 3) := by decide +kernel
theorem dX12_countOfHand_30 : decode cX12_countOfHand 30 = .ok (.iconst 1, 1) := by decide +kernel
theorem dX12_countOfHand_31 : decode cX12_countOfHand 31 = .ok (.goto 4, 3) := by decide +kernel
theorem dX12_countOfHand_34 : decode cX12_countOfHand 34 = .ok (.iconst 0, 1) := by decide +kernel
theorem dX12_countOfHand_35 : decode cX12_countOfHand 35 = .ok (.istore_n 3, 1) := by decide +kernel
theorem dX12_countOfHand_36 : decode cX12_countOfHand 36 = .ok (.iload_n 2, 1) := by decide +kernel
theorem dX12_countOfHand_37 : decode cX12_countOfHand 37 = .ok (.ifCond .ne 9, 3) := by decide +kernel
theorem dX12_countOfHand_40 : decode cX12_countOfHand 40 = .ok (.iload_n 3, 1) := by decide +kernel
theorem dX12_countOfHand_41 : decode cX12_countOfHand 41 = .ok (.ifCond .ne 5, 3) := by decide +kernel
theorem dX12_countOfHand_44 : decode cX12_countOfHand 44 = .ok (.iconst (-1), 1) := by decide +kernel
theorem dX12_countOfHand_45 : decode cX12_countOfHand 45 = .ok (.ireturn, 1) := by decide +kernel
theorem dX12_countOfHand_46 : decode cX12_countOfHand 46 = .ok (.aload_n 0, 1) := by decide +kernel
theorem dX12_countOfHand_47 : decode cX12_countOfHand 47 = .ok (.iload_n 2, 1) := by decide +kernel
theorem dX12_countOfHand_48 : decode cX12_countOfHand 48 = .ok (.ifCond .eq 10, 3) := by decide +kernel
theorem dX12_countOfHand_51 : decode cX12_countOfHand 51 = .ok (.iload_n 1, 1) := by decide +kernel
theorem dX12_countOfHand_52 : decode cX12_countOfHand 52 = .ok (.bipush 10, 2) := by decide +kernel
theorem dX12_countOfHand_54 : decode cX12_countOfHand 54 = .ok (.isub, 1) := by decide +kernel
theorem dX12_countOfHand_55 : decode cX12_countOfHand 55 = .ok (.goto 7, 3) := by decide +kernel
theorem dX12_countOfHand_58 : decode cX12_countOfHand 58 = .ok (.iload_n 1, 1) := by decide +kernel
theorem dX12_countOfHand_59 : decode cX12_countOfHand 59 = .ok (.bipush 30, 2) := by decide +kernel
theorem dX12_countOfHand_61 : decode cX12_countOfHand 61 = .ok (.isub, 1) := by decide +kernel
theorem dX12_countOfHand_62 : decode cX12_countOfHand 62 = .ok (.invokevirtual 296, 3) := by decide +kernel
theorem dX12_countOfHand_65 : decode cX12_countOfHand 65 = .ok (.astore 4, 2) := by decide +kernel
theorem dX12_countOfHand_67 : decode cX12_countOfHand 67 = .ok (.aload 4, 2) := by decide +kernel
theorem dX12_countOfHand_69 : decode cX12_countOfHand 69 = .ok (.ifnonnull 5, 3) := by decide +kernel
theorem dX12_countOfHand_72 : decode cX12_countOfHand 72 = .ok (.iconst (-1), 1) := by decide +kernel
theorem dX12_countOfHand_73 : decode cX12_countOfHand 73 = .ok (.ireturn, 1) := by decide +kernel
theorem dX12_countOfHand_74 : decode cX12_countOfHand 74 = .ok (.iload_n 2, 1) := by decide +kernel
theorem dX12_countOfHand_75 : decode cX12_countOfHand 75 = .ok (.ifCond .eq 11, 3) := by decide +kernel
theorem dX12_countOfHand_78 : decode cX12_countOfHand 78 = .ok (.aload 4, 2) := by decide +kernel
theorem dX12_countOfHand_80 : decode cX12_countOfHand 80 = .ok (.getfield 388, 3) := by decide +kernel
theorem dX12_countOfHand_83 : decode cX12_countOfHand 83 = .ok (.goto 16, 3) := by decide +kernel
theorem dX12_countOfHand_86 : decode cX12_countOfHand 86 = .ok (.aload 4, 2) := by decide +kernel
theorem dX12_countOfHand_88 : decode cX12_countOfHand 88 = .ok (.getfield 300, 3) := by decide +kernel
theorem dX12_countOfHand_91 : decode cX12_countOfHand 91 = .ok (.ifCond .eq 7, 3) := by decide +kernel
theorem dX12_countOfHand_94 : decode cX12_countOfHand 94 = .ok (.iconst 1, 1) := by decide +kernel
theorem dX12_countOfHand_95 : decode cX12_countOfHand 95 = .ok (.goto 4, 3) := by decide +kernel
theorem dX12_countOfHand_98 : decode cX12_countOfHand 98 = .ok (.iconst 0, 1) := by decide +kernel
theorem dX12_countOfHand_99 : decode cX12_countOfHand 99 = .ok (.ireturn, 1) := by decide +kernel
theorem dX13_init_0 : decode cX13_init 0 = .ok (.aload_n 0, 1) := by decide +kernel
theorem dX13_init_1 : decode cX13_init 1 = .ok (.invokespecial 1, 3) := by decide +kernel
theorem dX13_init_4 : decode cX13_init 4 = .ok (.aload_n 0, 1) := by decide +kernel
theorem dX13_init_5 : decode cX13_init 5 = .ok (.sipush 600, 3) := by decide +kernel
theorem dX13_init_8 : decode cX13_init 8 = .ok (.newarray .byte, 2) := by decide +kernel
theorem dX13_init_10 : decode cX13_init 10 = .ok (.putfield 9, 3) := by decide +kernel
theorem dX13_init_13 : decode cX13_init 13 = .ok (.aload_n 0, 1) := by decide +kernel
theorem dX13_init_14 : decode cX13_init 14 = .ok (.sipush 1200, 3) := by decide +kernel
theorem dX13_init_17 : decode cX13_init 17 = .ok (.newarray .int, 2) := by decide +kernel
theorem dX13_init_19 : decode cX13_init 19 = .ok (.putfield 13, 3) := by decide +kernel
theorem dX13_init_22 : decode cX13_init 22 = .ok (.aload_n 0, 1) := by decide +kernel
theorem dX13_init_23 : decode cX13_init 23 = .ok (.sipush 600, 3) := by decide +kernel
theorem dX13_init_26 : decode cX13_init 26 = .ok (.newarray .int, 2) := by decide +kernel
theorem dX13_init_28 : decode cX13_init 28 = .ok (.putfield 17, 3) := by decide +kernel
theorem dX13_init_31 : decode cX13_init 31 = .ok (.aload_n 0, 1) := by decide +kernel
theorem dX13_init_32 : decode cX13_init 32 = .ok (.sipush 600, 3) := by decide +kernel
theorem dX13_init_35 : decode cX13_init 35 = .ok (.newarray .int, 2) := by decide +kernel
theorem dX13_init_37 : decode cX13_init 37 = .ok (.putfield 20, 3) := by decide +kernel
theorem dX13_init_40 : decode cX13_init 40 = .ok (.aload_n 0, 1) := by decide +kernel
theorem dX13_init_41 : decode cX13_init 41 = .ok (.bipush 14, 2) := by decide +kernel
theorem dX13_init_43 : decode cX13_init 43 = .ok (.newarray .int, 2) := by decide +kernel
theorem dX13_init_45 : decode cX13_init 45 = .ok (.putfield 23, 3) := by decide +kernel
theorem dX13_init_48 : decode cX13_init 48 = .ok (.aload_n 0, 1) := by decide +kernel
theorem dX13_init_49 : decode cX13_init 49 = .ok (.bipush 14, 2) := by decide +kernel
theorem dX13_init_51 : decode cX13_init 51 = .ok (.newarray .int, 2) := by decide +kernel
theorem dX13_init_53 : decode cX13_init 53 = .ok (.putfield 26, 3) := by decide +kernel
theorem dX13_init_56 : decode cX13_init 56 = .ok (.aload_n 0, 1) := by decide +kernel
theorem dX13_init_57 : decode cX13_init 57 = .ok (.iconst 4, 1) := by decide +kernel
theorem dX13_init_58 : decode cX13_init 58 = .ok (.newarray .int, 2) := by decide +kernel
theorem dX13_init_60 : decode cX13_init 60 = .ok (.putfield 29, 3) := by decide +kernel
theorem dX13_init_63 : decode cX13_init 63 = .ok (.aload_n 0, 1) := by decide +kernel
theorem dX13_init_64 : decode cX13_init 64 = .ok (.iconst 4, 1) := by decide +kernel
theorem dX13_init_65 : decode cX13_init 65 = .ok (.newarray .int, 2) := by decide +kernel
theorem dX13_init_67 : decode cX13_init 67 = .ok (.putfield 32, 3) := by decide +kernel
theorem dX13_init_70 : decode cX13_init 70 = .ok (.aload_n 0, 1) := by decide +kernel
theorem dX13_init_71 : decode cX13_init 71 = .ok (.sipush 7200, 3) := by decide +kernel
theorem dX13_init_74 : decode cX13_init 74 = .ok (.newarray .int, 2) := by decide +kernel
theorem dX13_init_76 : decode cX13_init 76 = .ok (.putfield 35, 3) := by decide +kernel
theorem dX13_init_79 : decode cX13_init 79 = .ok (.aload_n 0, 1) := by decide +kernel
theorem dX13_init_80 : decode cX13_init 80 = .ok (.sipush 7200, 3) := by decide +kernel
theorem dX13_init_83 : decode cX13_init 83 = .ok (.newarray .int, 2) := by decide +kernel
theorem dX13_init_85 : decode cX13_init 85 = .ok (.putfield 38, 3) := by decide +kernel
theorem dX13_init_88 : decode cX13_init 88 = .ok (.aload_n 0, 1) := by decide +kernel
theorem dX13_init_89 : decode cX13_init 89 = .ok (.sipush 168, 3) := by decide +kernel
theorem dX13_init_92 : decode cX13_init 92 = .ok (.newarray .int, 2) := by decide +kernel
theorem dX13_init_94 : decode cX13_init 94 = .ok (.putfield 41, 3) := by decide +kernel
theorem dX13_init_97 : decode cX13_init 97 = .ok (.aload_n 0, 1) := by decide +kernel
theorem dX13_init_98 : decode cX13_init 98 = .ok (.sipush 168, 3) := by decide +kernel
theorem dX13_init_101 : decode cX13_init 101 = .ok (.newarray .int, 2) := by decide +kernel
theorem dX13_init_103 : decode cX13_init 103 = .ok (.putfield 44, 3) := by decide +kernel
theorem dX13_init_106 : decode cX13_init 106 = .ok (.aload_n 0, 1) := by decide +kernel
theorem dX13_init_107 : decode cX13_init 107 = .ok (.bipush 12, 2) := by decide +kernel
theorem dX13_init_109 : decode cX13_init 109 = .ok (.newarray .int, 2) := by decide +kernel
theorem dX13_init_111 : decode cX13_init 111 = .ok (.putfield 47, 3) := by decide +kernel
theorem dX13_init_114 : decode cX13_init 114 = .ok (.aload_n 0, 1) := by decide +kernel
theorem dX13_init_115 : decode cX13_init 115 = .ok (.sipush 384, 3) := by decide +kernel
theorem dX13_init_118 : decode cX13_init 118 = .ok (.newarray .byte, 2) := by decide +kernel
theorem dX13_init_120 : decode cX13_init 120 = .ok (.putfield 50, 3) := by decide +kernel
theorem dX13_init_123 : decode cX13_init 123 = .ok (.aload_n 0, 1) := by decide +kernel
theorem dX13_init_124 : decode cX13_init 124 = .ok (.bipush 48, 2) := by decide +kernel
theorem dX13_init_126 : decode cX13_init 126 = .ok (.newarray .int, 2) := by decide +kernel
theorem dX13_init_128 : decode cX13_init 128 = .ok (.putfield 53, 3) := by decide +kernel
theorem dX13_init_131 : decode cX13_init 131 = .ok (.aload_n 0, 1) := by decide +kernel
theorem dX13_init_132 : decode cX13_init 132 = .ok (.bipush 20, 2) := by decide +kernel
theorem dX13_init_134 : decode cX13_init 134 = .ok (.newarray .int, 2) := by decide +kernel
theorem dX13_init_136 : decode cX13_init 136 = .ok (.putfield 56, 3) := by decide +kernel
theorem dX13_init_139 : decode cX13_init 139 = .ok (.aload_n 0, 1) := by decide +kernel
theorem dX13_init_140 : decode cX13_init 140 = .ok (.bipush 20, 2) := by decide +kernel
theorem dX13_init_142 : decode cX13_init 142 = .ok (.newarray .int, 2) := by decide +kernel
theorem dX13_init_144 : decode cX13_init 144 = .ok (.putfield 59, 3) := by decide +kernel
theorem dX13_init_147 : decode cX13_init 147 = .ok (.aload_n 0, 1) := by decide +kernel
theorem dX13_init_148 : decode cX13_init 148 = .ok (.bipush 20, 2) := by decide +kernel
theorem dX13_init_150 : decode cX13_init 150 = .ok (.newarray .int, 2) := by decide +kernel
theorem dX13_init_152 : decode cX13_init 152 = .ok (.putfield 62, 3) := by decide +kernel
theorem dX13_init_155 : decode cX13_init 155 = .ok (.aload_n 0, 1) := by decide +kernel
theorem dX13_init_156 : decode cX13_init 156 = .ok (.iconst 5, 1) := by decide +kernel
theorem dX13_init_157 : decode cX13_init 157 = .ok (.newarray .int, 2) := by decide +kernel
theorem dX13_init_159 : decode cX13_init 159 = .ok (.dup, 1) := by decide +kernel
theorem dX13_init_160 : decode cX13_init 160 = .ok (.iconst 0, 1) := by decide +kernel
theorem dX13_init_161 : decode cX13_init 161 = .ok (.iconst 4, 1) := by decide +kernel
theorem dX13_init_162 : decode cX13_init 162 = .ok (.iastore, 1) := by decide +kernel
theorem dX13_init_163 : decode cX13_init 163 = .ok (.dup, 1) := by decide +kernel
theorem dX13_init_164 : decode cX13_init 164 = .ok (.iconst 1, 1) := by decide +kernel
theorem dX13_init_165 : decode cX13_init 165 = .ok (.bipush 9, 2) := by decide +kernel
theorem dX13_init_167 : decode cX13_init 167 = .ok (.iastore, 1) := by decide +kernel
theorem dX13_init_168 : decode cX13_init 168 = .ok (.dup, 1) := by decide +kernel
theorem dX13_init_169 : decode cX13_init 169 = .ok (.iconst 2, 1) := by decide +kernel
theorem dX13_init_170 : decode cX13_init 170 = .ok (.bipush 14, 2) := by decide +kernel
theorem dX13_init_172 : decode cX13_init 172 = .ok (.iastore, 1) := by decide +kernel
theorem dX13_init_173 : decode cX13_init 173 = .ok (.dup, 1) := by decide +kernel
theorem dX13_init_174 : decode cX13_init 174 = .ok (.iconst 3, 1) := by decide +kernel
theorem dX13_init_175 : decode cX13_init 175 = .ok (.bipush 19, 2) := by decide +kernel
theorem dX13_init_177 : decode cX13_init 177 = .ok (.iastore, 1) := by decide +kernel
theorem dX13_init_178 : decode cX13_init 178 = .ok (.dup, 1) := by decide +kernel
theorem dX13_init_179 : decode cX13_init 179 = .ok (.iconst 4, 1) := by decide +kernel
theorem dX13_init_180 : decode cX13_init 180 = .ok (.bipush 24, 2) := by decide +kernel
theorem dX13_init_182 : decode cX13_init 182 = .ok (.iastore, 1) := by decide +kernel
theorem dX13_init_183 : decode cX13_init 183 = .ok (.putfield 65, 3) := by decide +kernel
theorem dX13_init_186 : decode cX13_init 186 = .ok (.aload_n 0, 1) := by decide +kernel
theorem dX13_init_187 : decode cX13_init 187 = .ok (.bipush 6, 2) := by decide +kernel
theorem dX13_init_189 : decode cX13_init 189 = .ok (.newarray .boolean, 2) := by decide +kernel
theorem dX13_init_191 : decode cX13_init 191 = .ok (.putfield 68, 3) := by decide +kernel
theorem dX13_init_194 : decode cX13_init 194 = .ok (.aload_n 0, 1) := by decide +kernel
theorem dX13_init_195 : decode cX13_init 195 = .ok (.bipush 6, 2) := by decide +kernel
theorem dX13_init_197 : decode cX13_init 197 = .ok (.newarray .int, 2) := by decide +kernel
theorem dX13_init_199 : decode cX13_init 199 = .ok (.putfield 72, 3) := by decide +kernel
theorem dX13_init_202 : decode cX13_init 202 = .ok (.aload_n 0, 1) := by decide +kernel
theorem dX13_init_203 : decode cX13_init 203 = .ok (.bipush 6, 2) := by decide +kernel
theorem dX13_init_205 : decode cX13_init 205 = .ok (.newarray .int, 2) := by decide +kernel
theorem dX13_init_207 : decode cX13_init 207 = .ok (.putfield 75, 3) := by decide +kernel
theorem dX13_init_210 : decode cX13_init 210 = .ok (.aload_n 0, 1) := by decide +kernel
theorem dX13_init_211 : decode cX13_init 211 = .ok (.sipush 360, 3) := by decide +kernel
theorem dX13_init_214 : decode cX13_init 214 = .ok (.newarray .int, 2) := by decide +kernel
theorem dX13_init_216 : decode cX13_init 216 = .ok (.putfield 78, 3) := by decide +kernel
theorem dX13_init_219 : decode cX13_init 219 = .ok (.aload_n 0, 1) := by decide +kernel
theorem dX13_init_220 : decode cX13_init 220 = .ok (.bipush 6, 2) := by decide +kernel
theorem dX13_init_222 : decode cX13_init 222 = .ok (.newarray .int, 2) := by decide +kernel
theorem dX13_init_224 : decode cX13_init 224 = .ok (.putfield 81, 3) := by decide +kernel
theorem dX13_init_227 : decode cX13_init 227 = .ok (.aload_n 0, 1) := by decide +kernel
theorem dX13_init_228 : decode cX13_init 228 = .ok (.sipush 720, 3) := by decide +kernel
theorem dX13_init_231 : decode cX13_init 231 = .ok (.newarray .byte, 2) := by decide +kernel
theorem dX13_init_233 : decode cX13_init 233 = .ok (.putfield 84, 3) := by decide +kernel
theorem dX13_init_236 : decode cX13_init 236 = .ok (.aload_n 0, 1) := by decide +kernel
theorem dX13_init_237 : decode cX13_init 237 = .ok (.bipush 60, 2) := by decide +kernel
theorem dX13_init_239 : decode cX13_init 239 = .ok (.newarray .int, 2) := by decide +kernel
theorem dX13_init_241 : decode cX13_init 241 = .ok (.putfield 87, 3) := by decide +kernel
theorem dX13_init_244 : decode cX13_init 244 = .ok (.aload_n 0, 1) := by decide +kernel
theorem dX13_init_245 : decode cX13_init 245 = .ok (.bipush 60, 2) := by decide +kernel
theorem dX13_init_247 : decode cX13_init 247 = .ok (.newarray .int, 2) := by decide +kernel
theorem dX13_init_249 : decode cX13_init 249 = .ok (.putfield 90, 3) := by decide +kernel
theorem dX13_init_252 : decode cX13_init 252 = .ok (.aload_n 0, 1) := by decide +kernel
theorem dX13_init_253 : decode cX13_init 253 = .ok (.bipush 60, 2) := by decide +kernel
theorem dX13_init_255 : decode cX13_init 255 = .ok (.newarray .int, 2) := by decide +kernel
theorem dX13_init_257 : decode cX13_init 257 = .ok (.putfield 93, 3) := by decide +kernel
theorem dX13_init_260 : decode cX13_init 260 = .ok (.aload_n 0, 1) := by decide +kernel
theorem dX13_init_261 : decode cX13_init 261 = .ok (.bipush 60, 2) := by decide +kernel
theorem dX13_init_263 : decode cX13_init 263 = .ok (.newarray .int, 2) := by decide +kernel
theorem dX13_init_265 : decode cX13_init 265 = .ok (.putfield 96, 3) := by decide +kernel
theorem dX13_init_268 : decode cX13_init 268 = .ok (.aload_n 0, 1) := by decide +kernel
theorem dX13_init_269 : decode cX13_init 269 = .ok (.bipush 60, 2) := by decide +kernel
theorem dX13_init_271 : decode cX13_init 271 = .ok (.newarray .int, 2) := by decide +kernel
theorem dX13_init_273 : decode cX13_init 273 = .ok (.putfield 99, 3) := by decide +kernel
theorem dX13_init_276 : decode cX13_init 276 = .ok (.aload_n 0, 1) := by decide +kernel
theorem dX13_init_277 : decode cX13_init 277 = .ok (.bipush 60, 2) := by decide +kernel
theorem dX13_init_279 : decode cX13_init 279 = .ok (.newarray .int, 2) := by decide +kernel
theorem dX13_init_281 : decode cX13_init 281 = .ok (.putfield 102, 3) := by decide +kernel
theorem dX13_init_284 : decode cX13_init 284 = .ok (.aload_n 0, 1) := by decide +kernel
theorem dX13_init_285 : decode cX13_init 285 = .ok (.bipush 60, 2) := by decide +kernel
theorem dX13_init_287 : decode cX13_init 287 = .ok (.newarray .int, 2) := by decide +kernel
theorem dX13_init_289 : decode cX13_init 289 = .ok (.putfield 105, 3) := by decide +kernel
theorem dX13_init_292 : decode cX13_init 292 = .ok (.aload_n 0, 1) := by decide +kernel
theorem dX13_init_293 : decode cX13_init 293 = .ok (.bipush 60, 2) := by decide +kernel
theorem dX13_init_295 : decode cX13_init 295 = .ok (.newarray .boolean, 2) := by decide +kernel
theorem dX13_init_297 : decode cX13_init 297 = .ok (.putfield 108, 3) := by decide +kernel
theorem dX13_init_300 : decode cX13_init 300 = .ok (.aload_n 0, 1) := by decide +kernel
theorem dX13_init_301 : decode cX13_init 301 = .ok (.bipush 60, 2) := by decide +kernel
theorem dX13_init_303 : decode cX13_init 303 = .ok (.newarray .boolean, 2) := by decide +kernel
theorem dX13_init_305 : decode cX13_init 305 = .ok (.putfield 111, 3) := by decide +kernel
theorem dX13_init_308 : decode cX13_init 308 = .ok (.aload_n 0, 1) := by decide +kernel
theorem dX13_init_309 : decode cX13_init 309 = .ok (.bipush 60, 2) := by decide +kernel
theorem dX13_init_311 : decode cX13_init 311 = .ok (.newarray .int, 2) := by decide +kernel
theorem dX13_init_313 : decode cX13_init 313 = .ok (.putfield 114, 3) := by decide +kernel
theorem dX13_init_316 : decode cX13_init 316 = .ok (.aload_n 0, 1) := by decide +kernel
theorem dX13_init_317 : decode cX13_init 317 = .ok (.bipush 60, 2) := by decide +kernel
theorem dX13_init_319 : decode cX13_init 319 = .ok (.newarray .int, 2) := by decide +kernel
theorem dX13_init_321 : decode cX13_init 321 = .ok (.putfield 117, 3) := by decide +kernel
theorem dX13_init_324 : decode cX13_init 324 = .ok (.aload_n 0, 1) := by decide +kernel
theorem dX13_init_325 : decode cX13_init 325 = .ok (.bipush 12, 2) := by decide +kernel
theorem dX13_init_327 : decode cX13_init 327 = .ok (.newarray .int, 2) := by decide +kernel
theorem dX13_init_329 : decode cX13_init 329 = .ok (.putfield 120, 3) := by decide +kernel
theorem dX13_init_332 : decode cX13_init 332 = .ok (.aload_n 0, 1) := by decide +kernel
theorem dX13_init_333 : decode cX13_init 333 = .ok (.bipush 12, 2) := by decide +kernel
theorem dX13_init_335 : decode cX13_init 335 = .ok (.newarray .int, 2) := by decide +kernel
theorem dX13_init_337 : decode cX13_init 337 = .ok (.putfield 123, 3) := by decide +kernel
theorem dX13_init_340 : decode cX13_init 340 = .ok (.aload_n 0, 1) := by decide +kernel
theorem dX13_init_341 : decode cX13_init 341 = .ok (.bipush 12, 2) := by decide +kernel
theorem dX13_init_343 : decode cX13_init 343 = .ok (.newarray .int, 2) := by decide +kernel
theorem dX13_init_345 : decode cX13_init 345 = .ok (.putfield 126, 3) := by decide +kernel
theorem dX13_init_348 : decode cX13_init 348 = .ok (.aload_n 0, 1) := by decide +kernel
theorem dX13_init_349 : decode cX13_init 349 = .ok (.bipush 12, 2) := by decide +kernel
theorem dX13_init_351 : decode cX13_init 351 = .ok (.newarray .boolean, 2) := by decide +kernel
theorem dX13_init_353 : decode cX13_init 353 = .ok (.putfield 129, 3) := by decide +kernel
theorem dX13_init_356 : decode cX13_init 356 = .ok (.aload_n 0, 1) := by decide +kernel
theorem dX13_init_357 : decode cX13_init 357 = .ok (.sipush 144, 3) := by decide +kernel
theorem dX13_init_360 : decode cX13_init 360 = .ok (.newarray .boolean, 2) := by decide +kernel
theorem dX13_init_362 : decode cX13_init 362 = .ok (.putfield 132, 3) := by decide +kernel
theorem dX13_init_365 : decode cX13_init 365 = .ok (.aload_n 0, 1) := by decide +kernel
theorem dX13_init_366 : decode cX13_init 366 = .ok (.sipush 300, 3) := by decide +kernel
theorem dX13_init_369 : decode cX13_init 369 = .ok (.newarray .int, 2) := by decide +kernel
theorem dX13_init_371 : decode cX13_init 371 = .ok (.putfield 135, 3) := by decide +kernel
theorem dX13_init_374 : decode cX13_init 374 = .ok (.aload_n 0, 1) := by decide +kernel
theorem dX13_init_375 : decode cX13_init 375 = .ok (.sipush 300, 3) := by decide +kernel
theorem dX13_init_378 : decode cX13_init 378 = .ok (.newarray .int, 2) := by decide +kernel
theorem dX13_init_380 : decode cX13_init 380 = .ok (.putfield 138, 3) := by decide +kernel
theorem dX13_init_383 : decode cX13_init 383 = .ok (.aload_n 0, 1) := by decide +kernel
theorem dX13_init_384 : decode cX13_init 384 = .ok (.sipush 300, 3) := by decide +kernel
theorem dX13_init_387 : decode cX13_init 387 = .ok (.newarray .int, 2) := by decide +kernel
theorem dX13_init_389 : decode cX13_init 389 = .ok (.putfield 141, 3) := by decide +kernel
theorem dX13_init_392 : decode cX13_init 392 = .ok (.aload_n 0, 1) := by decide +kernel
theorem dX13_init_393 : decode cX13_init 393 = .ok (.sipush 300, 3) := by decide +kernel
theorem dX13_init_396 : decode cX13_init 396 = .ok (.newarray .int, 2) := by decide +kernel
theorem dX13_init_398 : decode cX13_init 398 = .ok (.putfield 144, 3) := by decide +kernel
theorem dX13_init_401 : decode cX13_init 401 = .ok (.aload_n 0, 1) := by decide +kernel
theorem dX13_init_402 : decode cX13_init 402 = .ok (.sipush 300, 3) := by decide +kernel
theorem dX13_init_405 : decode cX13_init 405 = .ok (.newarray .int, 2) := by decide +kernel
theorem dX13_init_407 : decode cX13_init 407 = .ok (.putfield 147, 3) := by decide +kernel
theorem dX13_init_410 : decode cX13_init 410 = .ok (.aload_n 0, 1) := by decide +kernel
theorem dX13_init_411 : decode cX13_init 411 = .ok (.sipush 300, 3) := by decide +kernel
theorem dX13_init_414 : decode cX13_init 414 = .ok (.newarray .int, 2) := by decide +kernel
theorem dX13_init_416 : decode cX13_init 416 = .ok (.putfield 150, 3) := by decide +kernel
theorem dX13_init_419 : decode cX13_init 419 = .ok (.aload_n 0, 1) := by decide +kernel
theorem dX13_init_420 : decode cX13_init 420 = .ok (.sipush 300, 3) := by decide +kernel
theorem dX13_init_423 : decode cX13_init 423 = .ok (.newarray .int, 2) := by decide +kernel
theorem dX13_init_425 : decode cX13_init 425 = .ok (.putfield 153, 3) := by decide +kernel
theorem dX13_init_428 : decode cX13_init 428 = .ok (.aload_n 0, 1) := by decide +kernel
theorem dX13_init_429 : decode cX13_init 429 = .ok (.sipush 300, 3) := by decide +kernel
theorem dX13_init_432 : decode cX13_init 432 = .ok (.newarray .int, 2) := by decide +kernel
theorem dX13_init_434 : decode cX13_init 434 = .ok (.putfield 156, 3) := by decide +kernel
theorem dX13_init_437 : decode cX13_init 437 = .ok (.aload_n 0, 1) := by decide +kernel
theorem dX13_init_438 : decode cX13_init 438 = .ok (.sipush 300, 3) := by decide +kernel
theorem dX13_init_441 : decode cX13_init 441 = .ok (.newarray .int, 2) := by decide +kernel
theorem dX13_init_443 : decode cX13_init 443 = .ok (.putfield 159, 3) := by decide +kernel
theorem dX13_init_446 : decode cX13_init 446 = .ok (.aload_n 0, 1) := by decide +kernel
theorem dX13_init_447 : decode cX13_init 447 = .ok (.sipush 600, 3) := by decide +kernel
theorem dX13_init_450 : decode cX13_init 450 = .ok (.newarray .int, 2) := by decide +kernel
theorem dX13_init_452 : decode cX13_init 452 = .ok (.putfield 162, 3) := by decide +kernel
theorem dX13_init_455 : decode cX13_init 455 = .ok (.aload_n 0, 1) := by decide +kernel
theorem dX13_init_456 : decode cX13_init 456 = .ok (.sipush 600, 3) := by decide +kernel
theorem dX13_init_459 : decode cX13_init 459 = .ok (.newarray .int, 2) := by decide +kernel
theorem dX13_init_461 : decode cX13_init 461 = .ok (.putfield 165, 3) := by decide +kernel
theorem dX13_init_464 : decode cX13_init 464 = .ok (.aload_n 0, 1) := by decide +kernel
theorem dX13_init_465 : decode cX13_init 465 = .ok (.sipush 600, 3) := by decide +kernel
theorem dX13_init_468 : decode cX13_init 468 = .ok (.newarray .int, 2) := by decide +kernel
theorem dX13_init_470 : decode cX13_init 470 = .ok (.putfield 168, 3) := by decide +kernel
theorem dX13_init_473 : decode cX13_init 473 = .ok (.aload_n 0, 1) := by decide +kernel
theorem dX13_init_474 : decode cX13_init 474 = .ok (.sipush 600, 3) := by decide +kernel
theorem dX13_init_477 : decode cX13_init 477 = .ok (.newarray .int, 2) := by decide +kernel
theorem dX13_init_479 : decode cX13_init 479 = .ok (.putfield 171, 3) := by decide +kernel
theorem dX13_init_482 : decode cX13_init 482 = .ok (.aload_n 0, 1) := by decide +kernel
theorem dX13_init_483 : decode cX13_init 483 = .ok (.bipush 60, 2) := by decide +kernel
theorem dX13_init_485 : decode cX13_init 485 = .ok (.newarray .int, 2) := by decide +kernel
theorem dX13_init_487 : decode cX13_init 487 = .ok (.putfield 174, 3) := by decide +kernel
theorem dX13_init_490 : decode cX13_init 490 = .ok (.aload_n 0, 1) := by decide +kernel
theorem dX13_init_491 : decode cX13_init 491 = .ok (.bipush 60, 2) := by decide +kernel
theorem dX13_init_493 : decode cX13_init 493 = .ok (.newarray .int, 2) := by decide +kernel
theorem dX13_init_495 : decode cX13_init 495 = .ok (.putfield 177, 3) := by decide +kernel
theorem dX13_init_498 : decode cX13_init 498 = .ok (.aload_n 0, 1) := by decide +kernel
theorem dX13_init_499 : decode cX13_init 499 = .ok (.bipush 60, 2) := by decide +kernel
theorem dX13_init_501 : decode cX13_init 501 = .ok (.newarray .int, 2) := by decide +kernel
theorem dX13_init_503 : decode cX13_init 503 = .ok (.putfield 180, 3) := by decide +kernel
theorem dX13_init_506 : decode cX13_init 506 = .ok (.aload_n 0, 1) := by decide +kernel
theorem dX13_init_507 : decode cX13_init 507 = .ok (.bipush 60, 2) := by decide +kernel
theorem dX13_init_509 : decode cX13_init 509 = .ok (.newarray .int, 2) := by decide +kernel
theorem dX13_init_511 : decode cX13_init 511 = .ok (.putfield 183, 3) := by decide +kernel
theorem dX13_init_514 : decode cX13_init 514 = .ok (.aload_n 0, 1) := by decide +kernel
theorem dX13_init_515 : decode cX13_init 515 = .ok (.bipush 10, 2) := by decide +kernel
theorem dX13_init_517 : decode cX13_init 517 = .ok (.newarray .int, 2) := by decide +kernel
theorem dX13_init_519 : decode cX13_init 519 = .ok (.putfield 186, 3) := by decide +kernel
theorem dX13_init_522 : decode cX13_init 522 = .ok (.aload_n 0, 1) := by decide +kernel
theorem dX13_init_523 : decode cX13_init 523 = .ok (.bipush 10, 2) := by decide +kernel
theorem dX13_init_525 : decode cX13_init 525 = .ok (.newarray .int, 2) := by decide +kernel
theorem dX13_init_527 : decode cX13_init 527 = .ok (.putfield 189, 3) := by decide +kernel
theorem dX13_init_530 : decode cX13_init 530 = .ok (.aload_n 0, 1) := by decide +kernel
theorem dX13_init_531 : decode cX13_init 531 = .ok (.bipush 30, 2) := by decide +kernel
theorem dX13_init_533 : decode cX13_init 533 = .ok (.newarray .int, 2) := by decide +kernel
theorem dX13_init_535 : decode cX13_init 535 = .ok (.putfield 192, 3) := by decide +kernel
theorem dX13_init_538 : decode cX13_init 538 = .ok (.aload_n 0, 1) := by decide +kernel
theorem dX13_init_539 : decode cX13_init 539 = .ok (.bipush 9, 2) := by decide +kernel
theorem dX13_init_541 : decode cX13_init 541 = .ok (.newarray .int, 2) := by decide +kernel
theorem dX13_init_543 : decode cX13_init 543 = .ok (.putfield 195, 3) := by decide +kernel
theorem dX13_init_546 : decode cX13_init 546 = .ok (.aload_n 0, 1) := by decide +kernel
theorem dX13_init_547 : decode cX13_init 547 = .ok (.sipush 600, 3) := by decide +kernel
theorem dX13_init_550 : decode cX13_init 550 = .ok (.newarray .int, 2) := by decide +kernel
theorem dX13_init_552 : decode cX13_init 552 = .ok (.putfield 198, 3) := by decide +kernel
theorem dX13_init_555 : decode cX13_init 555 = .ok (.aload_n 0, 1) := by decide +kernel
theorem dX13_init_556 : decode cX13_init 556 = .ok (.bipush 12, 2) := by decide +kernel
theorem dX13_init_558 : decode cX13_init 558 = .ok (.newarray .int, 2) := by decide +kernel
theorem dX13_init_560 : decode cX13_init 560 = .ok (.putfield 201, 3) := by decide +kernel
theorem dX13_init_563 : decode cX13_init 563 = .ok (.aload_n 0, 1) := by decide +kernel
theorem dX13_init_564 : decode cX13_init 564 = .ok (.bipush 12, 2) := by decide +kernel
theorem dX13_init_566 : decode cX13_init 566 = .ok (.newarray .int, 2) := by decide +kernel
theorem dX13_init_568 : decode cX13_init 568 = .ok (.putfield 204, 3) := by decide +kernel
theorem dX13_init_571 : decode cX13_init 571 = .ok (.aload_n 0, 1) := by decide +kernel
theorem dX13_init_572 : decode cX13_init 572 = .ok (.bipush 12, 2) := by decide +kernel
theorem dX13_init_574 : decode cX13_init 574 = .ok (.newarray .byte, 2) := by decide +kernel
theorem dX13_init_576 : decode cX13_init 576 = .ok (.putfield 207, 3) := by decide +kernel
theorem dX13_init_579 : decode cX13_init 579 = .ok (.aload_n 0, 1) := by decide +kernel
theorem dX13_init_580 : decode cX13_init 580 = .ok (.bipush 60, 2) := by decide +kernel
theorem dX13_init_582 : decode cX13_init 582 = .ok (.newarray .int, 2) := by decide +kernel
theorem dX13_init_584 : decode cX13_init 584 = .ok (.putfield 210, 3) := by decide +kernel
theorem dX13_init_587 : decode cX13_init 587 = .ok (.aload_n 0, 1) := by decide +kernel
theorem dX13_init_588 : decode cX13_init 588 = .ok (.bipush 60, 2) := by decide +kernel
theorem dX13_init_590 : decode cX13_init 590 = .ok (.newarray .int, 2) := by decide +kernel
theorem dX13_init_592 : decode cX13_init 592 = .ok (.putfield 213, 3) := by decide +kernel
theorem dX13_init_595 : decode cX13_init 595 = .ok (.aload_n 0, 1) := by decide +kernel
theorem dX13_init_596 : decode cX13_init 596 = .ok (.bipush 60, 2) := by decide +kernel
theorem dX13_init_598 : decode cX13_init 598 = .ok (.newarray .int, 2) := by decide +kernel
theorem dX13_init_600 : decode cX13_init 600 = .ok (.putfield 216, 3) := by decide +kernel
theorem dX13_init_603 : decode cX13_init 603 = .ok (.aload_n 0, 1) := by decide +kernel
theorem dX13_init_604 : decode cX13_init 604 = .ok (.bipush 60, 2) := by decide +kernel
theorem dX13_init_606 : decode cX13_init 606 = .ok (.newarray .int, 2) := by decide +kernel
theorem dX13_init_608 : decode cX13_init 608 = .ok (.putfield 219, 3) := by decide +kernel
theorem dX13_init_611 : decode cX13_init 611 = .ok (.aload_n 0, 1) := by decide +kernel
theorem dX13_init_612 : decode cX13_init 612 = .ok (.bipush 7, 2) := by decide +kernel
theorem dX13_init_614 : decode cX13_init 614 = .ok (.newarray .int, 2) := by decide +kernel
theorem dX13_init_616 : decode cX13_init 616 = .ok (.putfield 222, 3) := by decide +kernel
theorem dX13_init_619 : decode cX13_init 619 = .ok (.aload_n 0, 1) := by decide +kernel
theorem dX13_init_620 : decode cX13_init 620 = .ok (.bipush 6, 2) := by decide +kernel
theorem dX13_init_622 : decode cX13_init 622 = .ok (.newarray .int, 2) := by decide +kernel
theorem dX13_init_624 : decode cX13_init 624 = .ok (.putfield 225, 3) := by decide +kernel
theorem dX13_init_627 : decode cX13_init 627 = .ok (.aload_n 0, 1) := by decide +kernel
theorem dX13_init_628 : decode cX13_init 628 = .ok (.bipush 42, 2) := by decide +kernel
theorem dX13_init_630 : decode cX13_init 630 = .ok (.newarray .boolean, 2) := by decide +kernel
theorem dX13_init_632 : decode cX13_init 632 = .ok (.putfield 228, 3) := by decide +kernel
theorem dX13_init_635 : decode cX13_init 635 = .ok (.aload_n 0, 1) := by decide +kernel
theorem dX13_init_636 : decode cX13_init 636 = .ok (.bipush 6, 2) := by decide +kernel
theorem dX13_init_638 : decode cX13_init 638 = .ok (.newarray .int, 2) := by decide +kernel
theorem dX13_init_640 : decode cX13_init 640 = .ok (.putfield 231, 3) := by decide +kernel
theorem dX13_init_643 : decode cX13_init 643 = .ok (.aload_n 0, 1) := by decide +kernel
theorem dX13_init_644 : decode cX13_init 644 = .ok (.bipush 7, 2) := by decide +kernel
theorem dX13_init_646 : decode cX13_init 646 = .ok (.newarray .int, 2) := by decide +kernel
theorem dX13_init_648 : decode cX13_init 648 = .ok (.putfield 234, 3) := by decide +kernel
theorem dX13_init_651 : decode cX13_init 651 = .ok (.aload_n 0, 1) := by decide +kernel
theorem dX13_init_652 : decode cX13_init 652 = .ok (.sipush 300, 3) := by decide +kernel
theorem dX13_init_655 : decode cX13_init 655 = .ok (.newarray .int, 2) := by decide +kernel
theorem dX13_init_657 : decode cX13_init 657 = .ok (.putfield 237, 3) := by decide +kernel
theorem dX13_init_660 : decode cX13_init 660 = .ok (.aload_n 0, 1) := by decide +kernel
theorem dX13_init_661 : decode cX13_init 661 = .ok (.sipush 9331, 3) := by decide +kernel
theorem dX13_init_664 : decode cX13_init 664 = .ok (.newarray .int, 2) := by decide +kernel
theorem dX13_init_666 : decode cX13_init 666 = .ok (.putfield 240, 3) := by decide +kernel
theorem dX13_init_669 : decode cX13_init 669 = .ok (.aload_n 0, 1) := by decide +kernel
theorem dX13_init_670 : decode cX13_init 670 = .ok (.sipush 9331, 3) := by decide +kernel
theorem dX13_init_673 : decode cX13_init 673 = .ok (.newarray .int, 2) := by decide +kernel
theorem dX13_init_675 : decode cX13_init 675 = .ok (.putfield 243, 3) := by decide +kernel
theorem dX13_init_678 : decode cX13_init 678 = .ok (.return_, 1) := by decide +kernel
theorem dX13_in_0 : decode cX13_in 0 = .ok (.iload_n 0, 1) := by decide +kernel
theorem dX13_in_1 : decode cX13_in 1 = .ok (.iload_n 1, 1) := by decide +kernel
theorem dX13_in_2 : decode cX13_in 2 = .ok (.if_icmp .lt 12, 3) := by decide +kernel
theorem dX13_in_5 : decode cX13_in 5 = .ok (.iload_n 0, 1) := by decide +kernel
theorem dX13_in_6 : decode cX13_in 6 = .ok (.iload_n 2, 1) := by decide +kernel
theorem dX13_in_7 : decode cX13_in 7 = .ok (.if_icmp .gt 7, 3) := by decide +kernel
theorem dX13_in_10 : decode cX13_in 10 = .ok (.iconst 1, 1) := by decide +kernel
theorem dX13_in_11 : decode cX13_in 11 = .ok (.goto 4, 3) := by decide +kernel
theorem dX13_in_14 : decode cX13_in 14 = .ok (.iconst 0, 1) := by decide +kernel
theorem dX13_in_15 : decode cX13_in 15 = .ok (.ireturn, 1) := by decide +kernel
theorem dX13_near_0 : decode cX13_near 0 = .ok (.lload_n 0, 1) := by decide +kernel
theorem dX13_near_1 : decode cX13_near 1 = .ok (.ldc2_w 246, 3) := by decide +kernel
theorem dX13_near_4 : decode cX13_near 4 = .ok (.lcmp, 1) := by decide +kernel
theorem dX13_near_5 : decode cX13_near 5 = .ok (.ifCond .ge 8, 3) := by decide +kernel
theorem dX13_near_8 : decode cX13_near 8 = .ok (.ldc 248, 2) := by decide +kernel
theorem dX13_near_10 : decode cX13_near 10 = .ok (.goto 18, 3) := by decide +kernel
theorem dX13_near_13 : decode cX13_near 13 = .ok (.lload_n 0, 1) := by decide +kernel
theorem dX13_near_14 : decode cX13_near 14 = .ok (.ldc2_w 249, 3) := by decide +kernel
theorem dX13_near_17 : decode cX13_near 17 = .ok (.lcmp, 1) := by decide +kernel
theorem dX13_near_18 : decode cX13_near 18 = .ok (.ifCond .le 8, 3) := by decide +kernel
theorem dX13_near_21 : decode cX13_near 21 = .ok (.ldc 251, 2) := by decide +kernel
theorem dX13_near_23 : decode cX13_near 23 = .ok (.goto 5, 3) := by decide +kernel
theorem dX13_near_26 : decode cX13_near 26 = .ok (.lload_n 0, 1) := by decide +kernel
theorem dX13_near_27 : decode cX13_near 27 = .ok (.l2i, 1) := by decide +kernel
theorem dX13_near_28 : decode cX13_near 28 = .ok (.ireturn, 1) := by decide +kernel
theorem dX13_feed_0 : decode cX13_feed 0 = .ok (.aload_n 0, 1) := by decide +kernel
theorem dX13_feed_1 : decode cX13_feed 1 = .ok (.getfield 252, 3) := by decide +kernel
theorem dX13_feed_4 : decode cX13_feed 4 = .ok (.bipush 20, 2) := by decide +kernel
theorem dX13_feed_6 : decode cX13_feed 6 = .ok (.iadd, 1) := by decide +kernel
theorem dX13_feed_7 : decode cX13_feed 7 = .ok (.sipush 600, 3) := by decide +kernel
theorem dX13_feed_10 : decode cX13_feed 10 = .ok (.if_icmp .le 5, 3) := by decide +kernel
theorem dX13_feed_13 : decode cX13_feed 13 = .ok (.iconst (-1), 1) := by decide +kernel
theorem dX13_feed_14 : decode cX13_feed 14 = .ok (.ireturn, 1) := by decide +kernel
theorem dX13_feed_15 : decode cX13_feed 15 = .ok (.iconst 0, 1) := by decide +kernel
theorem dX13_feed_16 : decode cX13_feed 16 = .ok (.istore 6, 2) := by decide +kernel
theorem dX13_feed_18 : decode cX13_feed 18 = .ok (.iload 6, 2) := by decide +kernel
theorem dX13_feed_20 : decode cX13_feed 20 = .ok (.bipush 20, 2) := by decide +kernel
theorem dX13_feed_22 : decode cX13_feed 22 = .ok (.if_icmp .ge 90, 3) := by decide +kernel
theorem dX13_feed_25 : decode cX13_feed 25 = .ok (.iload 6, 2) := by decide +kernel
theorem dX13_feed_27 : decode cX13_feed 27 = .ok (.iconst 4, 1) := by decide +kernel
theorem dX13_feed_28 : decode cX13_feed 28 = .ok (.if_icmp .ge 7, 3) := by decide +kernel
theorem dX13_feed_31 : decode cX13_feed 31 = .ok (.iload_n 1, 1) := by decide +kernel
theorem dX13_feed_32 : decode cX13_feed 32 = .ok (.goto 39, 3) := by decide +kernel
theorem dX13_feed_35 : decode cX13_feed 35 = .ok (.iload 6, 2) := by decide +kernel
theorem dX13_feed_37 : decode cX13_feed 37 = .ok (.bipush 8, 2) := by decide +kernel
theorem dX13_feed_39 : decode cX13_feed 39 = .ok (.if_icmp .ge 7, 3) := by decide +kernel
theorem dX13_feed_42 : decode cX13_feed 42 = .ok (.iload_n 2, 1) := by decide +kernel
theorem dX13_feed_43 : decode cX13_feed 43 = .ok (.goto 28, 3) := by decide +kernel
theorem dX13_feed_46 : decode cX13_feed 46 = .ok (.iload 6, 2) := by decide +kernel
theorem dX13_feed_48 : decode cX13_feed 48 = .ok (.bipush 12, 2) := by decide +kernel
theorem dX13_feed_50 : decode cX13_feed 50 = .ok (.if_icmp .ge 7, 3) := by decide +kernel
theorem dX13_feed_53 : decode cX13_feed 53 = .ok (.iload_n 3, 1) := by decide +kernel
theorem dX13_feed_54 : decode cX13_feed 54 = .ok (.goto 17, 3) := by decide +kernel
theorem dX13_feed_57 : decode cX13_feed 57 = .ok (.iload 6, 2) := by decide +kernel
theorem dX13_feed_59 : decode cX13_feed 59 = .ok (.bipush 16, 2) := by decide +kernel
theorem dX13_feed_61 : decode cX13_feed 61 = .ok (.if_icmp .ge 8, 3) := by decide +kernel
theorem dX13_feed_64 : decode cX13_feed 64 = .ok (.iload 4, 2) := by decide +kernel
theorem dX13_feed_66 : decode cX13_feed 66 = .ok (.goto 5, 3) := by decide +kernel
theorem dX13_feed_69 : decode cX13_feed 69 = .ok (.iload 5, 2) := by decide +kernel
theorem dX13_feed_71 : decode cX13_feed 71 = .ok (.istore 7, 2) := by decide +kernel
theorem dX13_feed_73 : decode cX13_feed 73 = .ok (.aload_n 0, 1) := by decide +kernel
theorem dX13_feed_74 : decode cX13_feed 74 = .ok (.getfield 9, 3) := by decide +kernel
theorem dX13_feed_77 : decode cX13_feed 77 = .ok (.aload_n 0, 1) := by decide +kernel
theorem dX13_feed_78 : decode cX13_feed 78 = .ok (.getfield 252, 3) := by decide +kernel
theorem dX13_feed_81 : decode cX13_feed 81 = .ok (.iload 7, 2) := by decide +kernel
theorem dX13_feed_83 : decode cX13_feed 83 = .ok (.bipush 24, 2) := by decide +kernel
theorem dX13_feed_85 : decode cX13_feed 85 = .ok (.bipush 8, 2) := by decide +kernel
theorem dX13_feed_87 : decode cX13_feed 87 = .ok (.iload 6, 2) := by decide +kernel
theorem dX13_feed_89 : decode cX13_feed 89 = .ok (.iconst 4, 1) := by decide +kernel
theorem dX13_feed_90 : decode cX13_feed 90 = .ok (.irem, 1) := by decide +kernel
theorem dX13_feed_91 : decode cX13_feed 91 = .ok (.imul, 1) := by decide +kernel
theorem dX13_feed_92 : decode cX13_feed 92 = .ok (.isub, 1) := by decide +kernel
theorem dX13_feed_93 : decode cX13_feed 93 = .ok (.ishr, 1) := by decide +kernel
theorem dX13_feed_94 : decode cX13_feed 94 = .ok (.i2b, 1) := by decide +kernel
theorem dX13_feed_95 : decode cX13_feed 95 = .ok (.bastore, 1) := by decide +kernel
theorem dX13_feed_96 : decode cX13_feed 96 = .ok (.aload_n 0, 1) := by decide +kernel
theorem dX13_feed_97 : decode cX13_feed 97 = .ok (.dup, 1) := by decide +kernel
theorem dX13_feed_98 : decode cX13_feed 98 = .ok (.getfield 252, 3) := by decide +kernel
theorem dX13_feed_101 : decode cX13_feed 101 = .ok (.iconst 1, 1) := by decide +kernel
theorem dX13_feed_102 : decode cX13_feed 102 = .ok (.iadd, 1) := by decide +kernel
theorem dX13_feed_103 : decode cX13_feed 103 = .ok (.putfield 252, 3) := by decide +kernel
theorem dX13_feed_106 : decode cX13_feed 106 = .ok (.iinc 6 1, 3) := by decide +kernel
theorem dX13_feed_109 : decode cX13_feed 109 = .ok (.goto (-91), 3) := by decide +kernel
theorem dX13_feed_112 : decode cX13_feed 112 = .ok (.aload_n 0, 1) := by decide +kernel
theorem dX13_feed_113 : decode cX13_feed 113 = .ok (.getfield 252, 3) := by decide +kernel
theorem dX13_feed_116 : decode cX13_feed 116 = .ok (.ireturn, 1) := by decide +kernel
set_option maxRecDepth 20000 in
theorem ggX13_end_X13_in : GoodIn wsX13_end wsX13_in := goodIn_r _ [5] (by decide +kernel) (by decide +kernel)
set_option maxRecDepth 20000 in
theorem gX13_end_X13_in : GoodIn wsX13_end (va_wsS RX13 256 yX13_in wsX13_in) := goodIn_app (goodIn_of _ (by decide +kernel)) ggX13_end_X13_in
theorem dX13_end_0 : decode cX13_end 0 = .ok (.iload_n 1, 1) := by decide +kernel
theorem dX13_end_1 : decode cX13_end 1 = .ok (.iconst 0, 1) := by decide +kernel
theorem dX13_end_2 : decode cX13_end 2 = .ok (.aload_n 0, 1) := by decide +kernel
theorem dX13_end_3 : decode cX13_end 3 = .ok (.getfield 252, 3) := by decide +kernel
theorem dX13_end_6 : decode cX13_end 6 = .ok (.invokestatic 256, 3) := by decide +kernel
theorem dX13_end_9 : decode cX13_end 9 = .ok (.ifCond .ne 5, 3) := by decide +kernel
theorem dX13_end_12 : decode cX13_end 12 = .ok (.iconst 0, 1) := by decide +kernel
theorem dX13_end_13 : decode cX13_end 13 = .ok (.ireturn, 1) := by decide +kernel
theorem dX13_end_14 : decode cX13_end 14 = .ok (.aload_n 0, 1) := by decide +kernel
theorem dX13_end_15 : decode cX13_end 15 = .ok (.iload_n 1, 1) := by decide +kernel
theorem dX13_end_16 : decode cX13_end 16 = .ok (.putfield 252, 3) := by decide +kernel
theorem dX13_end_19 : decode cX13_end 19 = .ok (.iconst 1, 1) := by decide +kernel
theorem dX13_end_20 : decode cX13_end 20 = .ok (.ireturn, 1) := by decide +kernel
theorem dX13_isLetter_0 : decode cX13_isLetter 0 = .ok (.iload_n 0, 1) := by decide +kernel
theorem dX13_isLetter_1 : decode cX13_isLetter 1 = .ok (.bipush 97, 2) := by decide +kernel
theorem dX13_isLetter_3 : decode cX13_isLetter 3 = .ok (.if_icmp .lt 13, 3) := by decide +kernel
theorem dX13_isLetter_6 : decode cX13_isLetter 6 = .ok (.iload_n 0, 1) := by decide +kernel
theorem dX13_isLetter_7 : decode cX13_isLetter 7 = .ok (.bipush 122, 2) := by decide +kernel
theorem dX13_isLetter_9 : decode cX13_isLetter 9 = .ok (.if_icmp .gt 7, 3) := by decide +kernel
theorem dX13_isLetter_12 : decode cX13_isLetter 12 = .ok (.iconst 1, 1) := by decide +kernel
theorem dX13_isLetter_13 : decode cX13_isLetter 13 = .ok (.goto 4, 3) := by decide +kernel
theorem dX13_isLetter_16 : decode cX13_isLetter 16 = .ok (.iconst 0, 1) := by decide +kernel
theorem dX13_isLetter_17 : decode cX13_isLetter 17 = .ok (.ireturn, 1) := by decide +kernel
theorem dX13_isDigit_0 : decode cX13_isDigit 0 = .ok (.iload_n 0, 1) := by decide +kernel
theorem dX13_isDigit_1 : decode cX13_isDigit 1 = .ok (.bipush 48, 2) := by decide +kernel
theorem dX13_isDigit_3 : decode cX13_isDigit 3 = .ok (.if_icmp .lt 13, 3) := by decide +kernel
theorem dX13_isDigit_6 : decode cX13_isDigit 6 = .ok (.iload_n 0, 1) := by decide +kernel
theorem dX13_isDigit_7 : decode cX13_isDigit 7 = .ok (.bipush 57, 2) := by decide +kernel
theorem dX13_isDigit_9 : decode cX13_isDigit 9 = .ok (.if_icmp .gt 7, 3) := by decide +kernel
theorem dX13_isDigit_12 : decode cX13_isDigit 12 = .ok (.iconst 1, 1) := by decide +kernel
theorem dX13_isDigit_13 : decode cX13_isDigit 13 = .ok (.goto 4, 3) := by decide +kernel
theorem dX13_isDigit_16 : decode cX13_isDigit 16 = .ok (.iconst 0, 1) := by decide +kernel
theorem dX13_isDigit_17 : decode cX13_isDigit 17 = .ok (.ireturn, 1) := by decide +kernel
set_option maxRecDepth 20000 in
theorem ggX13_wordAt_J0_length_8abf5 : GoodIn wsX13_wordAt wsJ0_length_8abf5 := goodIn_r _ [6, 7, 8, 9, 10, 5, 11, 12, 13] (by decide +kernel) (by decide +kernel)
set_option maxRecDepth 20000 in
theorem gX13_wordAt_J0_length_8abf5 : GoodIn wsX13_wordAt (wsV RX13 262 RJ0 yJ0_length_8abf5 wsJ0_length_8abf5) := goodIn_app (goodIn_of _ (by decide +kernel)) ggX13_wordAt_J0_length_8abf5
set_option maxRecDepth 20000 in
theorem ggX13_wordAt_J0_charAt_5068e : GoodIn wsX13_wordAt wsJ0_charAt_5068e := goodIn_r _ [17, 7, 18, 19, 20, 5, 21, 12, 13, 22, 23, 24, 25, 26, 27, 28, 29, 30, 31, 32, 33, 34, 35, 36, 37, 38, 39, 40, 41, 42, 43, 44, 45, 46, 47, 48, 49, 50] (by decide +kernel) (by decide +kernel)
set_option maxRecDepth 20000 in
theorem gX13_wordAt_J0_charAt_5068e : GoodIn wsX13_wordAt (wsV RX13 268 RJ0 yJ0_charAt_5068e wsJ0_charAt_5068e) := goodIn_app (goodIn_of _ (by decide +kernel)) ggX13_wordAt_J0_charAt_5068e
theorem dX13_wordAt_0 : decode cX13_wordAt 0 = .ok (.iconst 0, 1) := by decide +kernel
theorem dX13_wordAt_1 : decode cX13_wordAt 1 = .ok (.istore_n 3, 1) := by decide +kernel
theorem dX13_wordAt_2 : decode cX13_wordAt 2 = .ok (.iconst 1, 1) := by decide +kernel
theorem dX13_wordAt_3 : decode cX13_wordAt 3 = .ok (.istore 4, 2) := by decide +kernel
theorem dX13_wordAt_5 : decode cX13_wordAt 5 = .ok (.iload 4, 2) := by decide +kernel
theorem dX13_wordAt_7 : decode cX13_wordAt 7 = .ok (.ldc_w 260, 3) := by decide +kernel
theorem dX13_wordAt_10 : decode cX13_wordAt 10 = .ok (.invokevirtual 262, 3) := by decide +kernel
theorem dX13_wordAt_13 : decode cX13_wordAt 13 = .ok (.if_icmp .ge 116, 3) := by decide +kernel
theorem dX13_wordAt_16 : decode cX13_wordAt 16 = .ok (.iconst 0, 1) := by decide +kernel
theorem dX13_wordAt_17 : decode cX13_wordAt 17 = .ok (.istore 5, 2) := by decide +kernel
theorem dX13_wordAt_19 : decode cX13_wordAt 19 = .ok (.ldc_w 260, 3) := by decide +kernel
theorem dX13_wordAt_22 : decode cX13_wordAt 22 = .ok (.iload 4, 2) := by decide +kernel
theorem dX13_wordAt_24 : decode cX13_wordAt 24 = .ok (.iload 5, 2) := by decide +kernel
theorem dX13_wordAt_26 : decode cX13_wordAt 26 = .ok (.iadd, 1) := by decide +kernel
theorem dX13_wordAt_27 : decode cX13_wordAt 27 = .ok (.invokevirtual 268, 3) := by decide +kernel
theorem dX13_wordAt_30 : decode cX13_wordAt 30 = .ok (.bipush 32, 2) := by decide +kernel
theorem dX13_wordAt_32 : decode cX13_wordAt 32 = .ok (.if_icmp .eq 9, 3) := by decide +kernel
theorem dX13_wordAt_35 : decode cX13_wordAt 35 = .ok (.iinc 5 1, 3) := by decide +kernel
theorem dX13_wordAt_38 : decode cX13_wordAt 38 = .ok (.goto (-19), 3) := by decide +kernel
theorem dX13_wordAt_41 : decode cX13_wordAt 41 = .ok (.iload 5, 2) := by decide +kernel
theorem dX13_wordAt_43 : decode cX13_wordAt 43 = .ok (.iload_n 2, 1) := by decide +kernel
theorem dX13_wordAt_44 : decode cX13_wordAt 44 = .ok (.iload_n 1, 1) := by decide +kernel
theorem dX13_wordAt_45 : decode cX13_wordAt 45 = .ok (.isub, 1) := by decide +kernel
theorem dX13_wordAt_46 : decode cX13_wordAt 46 = .ok (.if_icmp .ne 7, 3) := by decide +kernel
theorem dX13_wordAt_49 : decode cX13_wordAt 49 = .ok (.iconst 1, 1) := by decide +kernel
theorem dX13_wordAt_50 : decode cX13_wordAt 50 = .ok (.goto 4, 3) := by decide +kernel
theorem dX13_wordAt_53 : decode cX13_wordAt 53 = .ok (.iconst 0, 1) := by decide +kernel
theorem dX13_wordAt_54 : decode cX13_wordAt 54 = .ok (.istore 6, 2) := by decide +kernel
theorem dX13_wordAt_56 : decode cX13_wordAt 56 = .ok (.iconst 0, 1) := by decide +kernel
theorem dX13_wordAt_57 : decode cX13_wordAt 57 = .ok (.istore 7, 2) := by decide +kernel
theorem dX13_wordAt_59 : decode cX13_wordAt 59 = .ok (.iload 7, 2) := by decide +kernel
theorem dX13_wordAt_61 : decode cX13_wordAt 61 = .ok (.iload 5, 2) := by decide +kernel
theorem dX13_wordAt_63 : decode cX13_wordAt 63 = .ok (.if_icmp .ge 44, 3) := by decide +kernel
theorem dX13_wordAt_66 : decode cX13_wordAt 66 = .ok (.iload 6, 2) := by decide +kernel
theorem dX13_wordAt_68 : decode cX13_wordAt 68 = .ok (.ifCond .eq 39, 3) := by decide +kernel
theorem dX13_wordAt_71 : decode cX13_wordAt 71 = .ok (.ldc_w 260, 3) := by decide +kernel
theorem dX13_wordAt_74 : decode cX13_wordAt 74 = .ok (.iload 4, 2) := by decide +kernel
theorem dX13_wordAt_76 : decode cX13_wordAt 76 = .ok (.iload 7, 2) := by decide +kernel
theorem dX13_wordAt_78 : decode cX13_wordAt 78 = .ok (.iadd, 1) := by decide +kernel
theorem dX13_wordAt_79 : decode cX13_wordAt 79 = .ok (.invokevirtual 268, 3) := by decide +kernel
theorem dX13_wordAt_82 : decode cX13_wordAt 82 = .ok (.aload_n 0, 1) := by decide +kernel
theorem dX13_wordAt_83 : decode cX13_wordAt 83 = .ok (.getfield 9, 3) := by decide +kernel
theorem dX13_wordAt_86 : decode cX13_wordAt 86 = .ok (.iload_n 1, 1) := by decide +kernel
theorem dX13_wordAt_87 : decode cX13_wordAt 87 = .ok (.iload 7, 2) := by decide +kernel
theorem dX13_wordAt_89 : decode cX13_wordAt 89 = .ok (.iadd, 1) := by decide +kernel
theorem dX13_wordAt_90 : decode cX13_wordAt 90 = .ok (.baload, 1) := by decide +kernel
theorem dX13_wordAt_91 : decode cX13_wordAt 91 = .ok (.if_icmp .ne 7, 3) := by decide +kernel
theorem dX13_wordAt_94 : decode cX13_wordAt 94 = .ok (.iconst 1, 1) := by decide +kernel
theorem dX13_wordAt_95 : decode cX13_wordAt 95 = .ok (.goto 4, 3) := by decide +kernel
theorem dX13_wordAt_98 : decode cX13_wordAt 98 = .ok (.iconst 0, 1) := by decide +kernel
theorem dX13_wordAt_99 : decode cX13_wordAt 99 = .ok (.istore 6, 2) := by decide +kernel
theorem dX13_wordAt_101 : decode cX13_wordAt 101 = .ok (.iinc 7 1, 3) := by decide +kernel
theorem dX13_wordAt_104 : decode cX13_wordAt 104 = .ok (.goto (-45), 3) := by decide +kernel
theorem dX13_wordAt_107 : decode cX13_wordAt 107 = .ok (.iload 6, 2) := by decide +kernel
theorem dX13_wordAt_109 : decode cX13_wordAt 109 = .ok (.ifCond .eq 5, 3) := by decide +kernel
theorem dX13_wordAt_112 : decode cX13_wordAt 112 = .ok (.iload_n 3, 1) := by decide +kernel
theorem dX13_wordAt_113 : decode cX13_wordAt 113 = .ok (.ireturn, 1) := by decide +kernel
theorem dX13_wordAt_114 : decode cX13_wordAt 114 = .ok (.iinc 3 1, 3) := by decide +kernel
theorem dX13_wordAt_117 : decode cX13_wordAt 117 = .ok (.iload 4, 2) := by decide +kernel
theorem dX13_wordAt_119 : decode cX13_wordAt 119 = .ok (.iload 5, 2) := by decide +kernel
theorem dX13_wordAt_121 : decode cX13_wordAt 121 = .ok (.iconst 1, 1) := by decide +kernel
theorem dX13_wordAt_122 : decode cX13_wordAt 122 = .ok (.iadd, 1) := by decide +kernel
theorem dX13_wordAt_123 : decode cX13_wordAt 123 = .ok (.iadd, 1) := by decide +kernel
theorem dX13_wordAt_124 : decode cX13_wordAt 124 = .ok (.istore 4, 2) := by decide +kernel
theorem dX13_wordAt_126 : decode cX13_wordAt 126 = .ok (.goto (-121), 3) := by decide +kernel
theorem dX13_wordAt_129 : decode cX13_wordAt 129 = .ok (.iconst (-1), 1) := by decide +kernel
theorem dX13_wordAt_130 : decode cX13_wordAt 130 = .ok (.ireturn, 1) := by decide +kernel
set_option maxRecDepth 20000 in
theorem ggX13_next_X13_isLetter : GoodIn wsX13_next wsX13_isLetter := goodIn_r _ [11] (by decide +kernel) (by decide +kernel)
set_option maxRecDepth 20000 in
theorem gX13_next_X13_isLetter : GoodIn wsX13_next (va_wsS RX13 284 yX13_isLetter wsX13_isLetter) := goodIn_app (goodIn_of _ (by decide +kernel)) ggX13_next_X13_isLetter
set_option maxRecDepth 20000 in
theorem ggX13_next_X13_wordAt : GoodIn wsX13_next wsX13_wordAt := goodIn_r _ [15, 3, 16, 17, 18, 19, 20, 21, 22, 23, 24, 25, 26, 27, 28, 29, 30, 31, 32, 33, 34, 35, 36, 37, 38, 39, 40, 41, 42, 43, 44, 45, 46, 47, 48, 49, 50, 51, 52, 53, 54, 55, 56, 57, 58, 59, 60, 61, 62, 63, 64, 68, 69, 70, 71, 72, 73, 74, 75, 76, 77, 78, 79, 80, 81, 82, 83, 84, 85, 86, 87, 88, 89, 90, 91, 92, 93, 94, 95, 96, 97, 98, 99, 100, 101, 102, 103, 104, 105, 106, 107, 108, 109, 110, 111, 112, 113, 114, 115, 116, 117, 118, 119, 120, 121, 122, 123, 124, 125, 126, 127, 128, 129, 130, 131, 132, 133, 134, 135, 136, 137, 138, 139, 140, 141, 142, 143, 144, 145, 146, 147, 148, 149, 150, 151, 152, 153, 154, 155, 156, 157, 158, 159, 160, 161, 162, 163, 164, 165, 166, 167, 168, 169, 170, 171] (by decide +kernel) (by decide +kernel)
set_option maxRecDepth 20000 in
theorem gX13_next_X13_wordAt : GoodIn wsX13_next (wsV RX13 288 RX13 yX13_wordAt wsX13_wordAt) := goodIn_app (goodIn_of _ (by decide +kernel)) ggX13_next_X13_wordAt
set_option maxRecDepth 20000 in
theorem ggX13_next_X13_isDigit : GoodIn wsX13_next wsX13_isDigit := goodIn_r _ [67] (by decide +kernel) (by decide +kernel)
set_option maxRecDepth 20000 in
theorem gX13_next_X13_isDigit : GoodIn wsX13_next (va_wsS RX13 292 yX13_isDigit wsX13_isDigit) := goodIn_app (goodIn_of _ (by decide +kernel)) ggX13_next_X13_isDigit
theorem dX13_next_0 : decode cX13_next 0 = .ok (.aload_n 0, 1) := by decide +kernel
theorem dX13_next_1 : decode cX13_next 1 = .ok (.getfield 272, 3) := by decide +kernel
theorem dX13_next_4 : decode cX13_next 4 = .ok (.aload_n 0, 1) := by decide +kernel
theorem dX13_next_5 : decode cX13_next 5 = .ok (.getfield 252, 3) := by decide +kernel
theorem dX13_next_8 : decode cX13_next 8 = .ok (.if_icmp .ge 44, 3) := by decide +kernel
theorem dX13_next_11 : decode cX13_next 11 = .ok (.aload_n 0, 1) := by decide +kernel
theorem dX13_next_12 : decode cX13_next 12 = .ok (.getfield 9, 3) := by decide +kernel
theorem dX13_next_15 : decode cX13_next 15 = .ok (.aload_n 0, 1) := by decide +kernel
theorem dX13_next_16 : decode cX13_next 16 = .ok (.getfield 272, 3) := by decide +kernel
theorem dX13_next_19 : decode cX13_next 19 = .ok (.baload, 1) := by decide +kernel
theorem dX13_next_20 : decode cX13_next 20 = .ok (.bipush 32, 2) := by decide +kernel
theorem dX13_next_22 : decode cX13_next 22 = .ok (.if_icmp .eq 17, 3) := by decide +kernel
theorem dX13_next_25 : decode cX13_next 25 = .ok (.aload_n 0, 1) := by decide +kernel
theorem dX13_next_26 : decode cX13_next 26 = .ok (.getfield 9, 3) := by decide +kernel
theorem dX13_next_29 : decode cX13_next 29 = .ok (.aload_n 0, 1) := by decide +kernel
theorem dX13_next_30 : decode cX13_next 30 = .ok (.getfield 272, 3) := by decide +kernel
theorem dX13_next_33 : decode cX13_next 33 = .ok (.baload, 1) := by decide +kernel
theorem dX13_next_34 : decode cX13_next 34 = .ok (.bipush 10, 2) := by decide +kernel
theorem dX13_next_36 : decode cX13_next 36 = .ok (.if_icmp .ne 16, 3) := by decide +kernel
theorem dX13_next_39 : decode cX13_next 39 = .ok (.aload_n 0, 1) := by decide +kernel
theorem dX13_next_40 : decode cX13_next 40 = .ok (.dup, 1) := by decide +kernel
theorem dX13_next_41 : decode cX13_next 41 = .ok (.getfield 272, 3) := by decide +kernel
theorem dX13_next_44 : decode cX13_next 44 = .ok (.iconst 1, 1) := by decide +kernel
theorem dX13_next_45 : decode cX13_next 45 = .ok (.iadd, 1) := by decide +kernel
theorem dX13_next_46 : decode cX13_next 46 = .ok (.putfield 272, 3) := by decide +kernel
theorem dX13_next_49 : decode cX13_next 49 = .ok (.goto (-49), 3) := by decide +kernel
theorem dX13_next_52 : decode cX13_next 52 = .ok (.aload_n 0, 1) := by decide +kernel
theorem dX13_next_53 : decode cX13_next 53 = .ok (.aload_n 0, 1) := by decide +kernel
theorem dX13_next_54 : decode cX13_next 54 = .ok (.getfield 272, 3) := by decide +kernel
theorem dX13_next_57 : decode cX13_next 57 = .ok (.putfield 275, 3) := by decide +kernel
theorem dX13_next_60 : decode cX13_next 60 = .ok (.aload_n 0, 1) := by decide +kernel
theorem dX13_next_61 : decode cX13_next 61 = .ok (.iconst 0, 1) := by decide +kernel
theorem dX13_next_62 : decode cX13_next 62 = .ok (.putfield 278, 3) := by decide +kernel
theorem dX13_next_65 : decode cX13_next 65 = .ok (.aload_n 0, 1) := by decide +kernel
theorem dX13_next_66 : decode cX13_next 66 = .ok (.iconst 0, 1) := by decide +kernel
theorem dX13_next_67 : decode cX13_next 67 = .ok (.putfield 281, 3) := by decide +kernel
theorem dX13_next_70 : decode cX13_next 70 = .ok (.aload_n 0, 1) := by decide +kernel
theorem dX13_next_71 : decode cX13_next 71 = .ok (.getfield 272, 3) := by decide +kernel
theorem dX13_next_74 : decode cX13_next 74 = .ok (.aload_n 0, 1) := by decide +kernel
theorem dX13_next_75 : decode cX13_next 75 = .ok (.getfield 252, 3) := by decide +kernel
theorem dX13_next_78 : decode cX13_next 78 = .ok (.if_icmp .ne 4, 3) := by decide +kernel
theorem dX13_next_81 : decode cX13_next 81 = .ok (.return_, 1) := by decide +kernel
theorem dX13_next_82 : decode cX13_next 82 = .ok (.aload_n 0, 1) := by decide +kernel
theorem dX13_next_83 : decode cX13_next 83 = .ok (.getfield 9, 3) := by decide +kernel
theorem dX13_next_86 : decode cX13_next 86 = .ok (.aload_n 0, 1) := by decide +kernel
theorem dX13_next_87 : decode cX13_next 87 = .ok (.getfield 272, 3) := by decide +kernel
theorem dX13_next_90 : decode cX13_next 90 = .ok (.baload, 1) := by decide +kernel
theorem dX13_next_91 : decode cX13_next 91 = .ok (.istore_n 1, 1) := by decide +kernel
theorem dX13_next_92 : decode cX13_next 92 = .ok (.iload_n 1, 1) := by decide +kernel
theorem dX13_next_93 : decode cX13_next 93 = .ok (.invokestatic 284, 3) := by decide +kernel
theorem dX13_next_96 : decode cX13_next 96 = .ok (.ifCond .eq 66, 3) := by decide +kernel
theorem dX13_next_99 : decode cX13_next 99 = .ok (.aload_n 0, 1) := by decide +kernel
theorem dX13_next_100 : decode cX13_next 100 = .ok (.getfield 272, 3) := by decide +kernel
theorem dX13_next_103 : decode cX13_next 103 = .ok (.aload_n 0, 1) := by decide +kernel
theorem dX13_next_104 : decode cX13_next 104 = .ok (.getfield 252, 3) := by decide +kernel
theorem dX13_next_107 : decode cX13_next 107 = .ok (.if_icmp .ge 31, 3) := by decide +kernel
theorem dX13_next_110 : decode cX13_next 110 = .ok (.aload_n 0, 1) := by decide +kernel
theorem dX13_next_111 : decode cX13_next 111 = .ok (.getfield 9, 3) := by decide +kernel
theorem dX13_next_114 : decode cX13_next 114 = .ok (.aload_n 0, 1) := by decide +kernel
theorem dX13_next_115 : decode cX13_next 115 = .ok (.getfield 272, 3) := by decide +kernel
theorem dX13_next_118 : decode cX13_next 118 = .ok (.baload, 1) := by decide +kernel
theorem dX13_next_119 : decode cX13_next 119 = .ok (.invokestatic 284, 3) := by decide +kernel
theorem dX13_next_122 : decode cX13_next 122 = .ok (.ifCond .eq 16, 3) := by decide +kernel
theorem dX13_next_125 : decode cX13_next 125 = .ok (.aload_n 0, 1) := by decide +kernel
theorem dX13_next_126 : decode cX13_next 126 = .ok (.dup, 1) := by decide +kernel
theorem dX13_next_127 : decode cX13_next 127 = .ok (.getfield 272, 3) := by decide +kernel
theorem dX13_next_130 : decode cX13_next 130 = .ok (.iconst 1, 1) := by decide +kernel
theorem dX13_next_131 : decode cX13_next 131 = .ok (.iadd, 1) := by decide +kernel
theorem dX13_next_132 : decode cX13_next 132 = .ok (.putfield 272, 3) := by decide +kernel
theorem dX13_next_135 : decode cX13_next 135 = .ok (.goto (-36), 3) := by decide +kernel
theorem dX13_next_138 : decode cX13_next 138 = .ok (.aload_n 0, 1) := by decide +kernel
theorem dX13_next_139 : decode cX13_next 139 = .ok (.iconst 2, 1) := by decide +kernel
theorem dX13_next_140 : decode cX13_next 140 = .ok (.putfield 281, 3) := by decide +kernel
theorem dX13_next_143 : decode cX13_next 143 = .ok (.aload_n 0, 1) := by decide +kernel
theorem dX13_next_144 : decode cX13_next 144 = .ok (.aload_n 0, 1) := by decide +kernel
theorem dX13_next_145 : decode cX13_next 145 = .ok (.aload_n 0, 1) := by decide +kernel
theorem dX13_next_146 : decode cX13_next 146 = .ok (.getfield 275, 3) := by decide +kernel
theorem dX13_next_149 : decode cX13_next 149 = .ok (.aload_n 0, 1) := by decide +kernel
theorem dX13_next_150 : decode cX13_next 150 = .ok (.getfield 272, 3) := by decide +kernel
theorem dX13_next_153 : decode cX13_next 153 = .ok (.invokevirtual 288, 3) := by decide +kernel
theorem dX13_next_156 : decode cX13_next 156 = .ok (.putfield 278, 3) := by decide +kernel
theorem dX13_next_159 : decode cX13_next 159 = .ok (.goto 199, 3) := by decide +kernel
theorem dX13_next_162 : decode cX13_next 162 = .ok (.iload_n 1, 1) := by decide +kernel
theorem dX13_next_163 : decode cX13_next 163 = .ok (.invokestatic 292, 3) := by decide +kernel
theorem dX13_next_166 : decode cX13_next 166 = .ok (.ifCond .eq 90, 3) := by decide +kernel
theorem dX13_next_169 : decode cX13_next 169 = .ok (.aload_n 0, 1) := by decide +kernel
theorem dX13_next_170 : decode cX13_next 170 = .ok (.getfield 272, 3) := by decide +kernel
theorem dX13_next_173 : decode cX13_next 173 = .ok (.aload_n 0, 1) := by decide +kernel
theorem dX13_next_174 : decode cX13_next 174 = .ok (.getfield 252, 3) := by decide +kernel
theorem dX13_next_177 : decode cX13_next 177 = .ok (.if_icmp .ge 71, 3) := by decide +kernel
theorem dX13_next_180 : decode cX13_next 180 = .ok (.aload_n 0, 1) := by decide +kernel
theorem dX13_next_181 : decode cX13_next 181 = .ok (.getfield 9, 3) := by decide +kernel
theorem dX13_next_184 : decode cX13_next 184 = .ok (.aload_n 0, 1) := by decide +kernel
theorem dX13_next_185 : decode cX13_next 185 = .ok (.getfield 272, 3) := by decide +kernel
theorem dX13_next_188 : decode cX13_next 188 = .ok (.baload, 1) := by decide +kernel
theorem dX13_next_189 : decode cX13_next 189 = .ok (.invokestatic 292, 3) := by decide +kernel
theorem dX13_next_192 : decode cX13_next 192 = .ok (.ifCond .eq 56, 3) := by decide +kernel
theorem dX13_next_195 : decode cX13_next 195 = .ok (.aload_n 0, 1) := by decide +kernel
theorem dX13_next_196 : decode cX13_next 196 = .ok (.aload_n 0, 1) := by decide +kernel
theorem dX13_next_197 : decode cX13_next 197 = .ok (.getfield 278, 3) := by decide +kernel
theorem dX13_next_200 : decode cX13_next 200 = .ok (.ldc 251, 2) := by decide +kernel
theorem dX13_next_202 : decode cX13_next 202 = .ok (.if_icmp .le 10, 3) := by decide +kernel
theorem dX13_next_205 : decode cX13_next 205 = .ok (.aload_n 0, 1) := by decide +kernel
theorem dX13_next_206 : decode cX13_next 206 = .ok (.getfield 278, 3) := by decide +kernel
theorem dX13_next_209 : decode cX13_next 209 = .ok (.goto 23, 3) := by decide +kernel
theorem dX13_next_212 : decode cX13_next 212 = .ok (.bipush 10, 2) := by decide +kernel
theorem dX13_next_214 : decode cX13_next 214 = .ok (.aload_n 0, 1) := by decide +kernel
theorem dX13_next_215 : decode cX13_next 215 = .ok (.getfield 278, 3) := by decide +kernel
theorem dX13_next_218 : decode cX13_next 218 = .ok (.imul, 1) := by decide +kernel
theorem dX13_next_219 : decode cX13_next 219 = .ok (.aload_n 0, 1) := by decide +kernel
theorem dX13_next_220 : decode cX13_next 220 = .ok (.getfield 9, 3) := by decide +kernel
theorem dX13_next_223 : decode cX13_next 223 = .ok (.aload_n 0, 1) := by decide +kernel
theorem dX13_next_224 : decode cX13_next 224 = .ok (.getfield 272, 3) := by decide +kernel
theorem dX13_next_227 : decode cX13_next 227 = .ok (.baload, 1) := by decide +kernel
theorem dX13_next_228 : decode cX13_next 228 = .ok (.iadd, 1) := by decide +kernel
theorem dX13_next_229 : decode cX13_next 229 = .ok (.bipush 48, 2) := by decide +kernel
theorem dX13_next_231 : decode cX13_next 231 = .ok (.isub, 1) := by decide +kernel
theorem dX13_next_232 : decode cX13_next 232 = .ok (.putfield 278, 3) := by decide +kernel
theorem dX13_next_235 : decode cX13_next 235 = .ok (.aload_n 0, 1) := by decide +kernel
theorem dX13_next_236 : decode cX13_next 236 = .ok (.dup, 1) := by decide +kernel
theorem dX13_next_237 : decode cX13_next 237 = .ok (.getfield 272, 3) := by decide +kernel
theorem dX13_next_240 : decode cX13_next 240 = .ok (.iconst 1, 1) := by decide +kernel
theorem dX13_next_241 : decode cX13_next 241 = .ok (.iadd, 1) := by decide +kernel
theorem dX13_next_242 : decode cX13_next 242 = .ok (.putfield 272, 3) := by decide +kernel
theorem dX13_next_245 : decode cX13_next 245 = .ok (.goto (-76), 3) := by decide +kernel
theorem dX13_next_248 : decode cX13_next 248 = .ok (.aload_n 0, 1) := by decide +kernel
theorem dX13_next_249 : decode cX13_next 249 = .ok (.iconst 1, 1) := by decide +kernel
theorem dX13_next_250 : decode cX13_next 250 = .ok (.putfield 281, 3) := by decide +kernel
theorem dX13_next_253 : decode cX13_next 253 = .ok (.goto 105, 3) := by decide +kernel
theorem dX13_next_256 : decode cX13_next 256 = .ok (.aload_n 0, 1) := by decide +kernel
theorem dX13_next_257 : decode cX13_next 257 = .ok (.iload_n 1, 1) := by decide +kernel
theorem dX13_next_258 : decode cX13_next 258 = .ok (.bipush 43, 2) := by decide +kernel
theorem dX13_next_260 : decode cX13_next 260 = .ok (.if_icmp .eq 75, 3) := by decide +kernel
theorem dX13_next_263 : decode cX13_next 263 = .ok (.iload_n 1, 1) := by decide +kernel
theorem dX13_next_264 : decode cX13_next 264 = .ok (.bipush 45, 2) := by decide +kernel
theorem dX13_next_266 : decode cX13_next 266 = .ok (.if_icmp .eq 69, 3) := by decide +kernel
theorem dX13_next_269 : decode cX13_next 269 = .ok (.iload_n 1, 1) := by decide +kernel
theorem dX13_next_270 : decode cX13_next 270 = .ok (.bipush 42, 2) := by decide +kernel
theorem dX13_next_272 : decode cX13_next 272 = .ok (.if_icmp .eq 63, 3) := by decide +kernel
theorem dX13_next_275 : decode cX13_next 275 = .ok (.iload_n 1, 1) := by decide +kernel
theorem dX13_next_276 : decode cX13_next 276 = .ok (.bipush 47, 2) := by decide +kernel
theorem dX13_next_278 : decode cX13_next 278 = .ok (.if_icmp .eq 57, 3) := by decide +kernel
theorem dX13_next_281 : decode cX13_next 281 = .ok (.iload_n 1, 1) := by decide +kernel
theorem dX13_next_282 : decode cX13_next 282 = .ok (.bipush 40, 2) := by decide +kernel
theorem dX13_next_284 : decode cX13_next 284 = .ok (.if_icmp .eq 51, 3) := by decide +kernel
theorem dX13_next_287 : decode cX13_next 287 = .ok (.iload_n 1, 1) := by decide +kernel
theorem dX13_next_288 : decode cX13_next 288 = .ok (.bipush 41, 2) := by decide +kernel
theorem dX13_next_290 : decode cX13_next 290 = .ok (.if_icmp .eq 45, 3) := by decide +kernel
theorem dX13_next_293 : decode cX13_next 293 = .ok (.iload_n 1, 1) := by decide +kernel
theorem dX13_next_294 : decode cX13_next 294 = .ok (.bipush 91, 2) := by decide +kernel
theorem dX13_next_296 : decode cX13_next 296 = .ok (.if_icmp .eq 39, 3) := by decide +kernel
theorem dX13_next_299 : decode cX13_next 299 = .ok (.iload_n 1, 1) := by decide +kernel
theorem dX13_next_300 : decode cX13_next 300 = .ok (.bipush 93, 2) := by decide +kernel
theorem dX13_next_302 : decode cX13_next 302 = .ok (.if_icmp .eq 33, 3) := by decide +kernel
theorem dX13_next_305 : decode cX13_next 305 = .ok (.iload_n 1, 1) := by decide +kernel
theorem dX13_next_306 : decode cX13_next 306 = .ok (.bipush 44, 2) := by decide +kernel
theorem dX13_next_308 : decode cX13_next 308 = .ok (.if_icmp .eq 27, 3) := by decide +kernel
theorem dX13_next_311 : decode cX13_next 311 = .ok (.iload_n 1, 1) := by decide +kernel
theorem dX13_next_312 : decode cX13_next 312 = .ok (.bipush 60, 2) := by decide +kernel
theorem dX13_next_314 : decode cX13_next 314 = .ok (.if_icmp .eq 21, 3) := by decide +kernel
theorem dX13_next_317 : decode cX13_next 317 = .ok (.iload_n 1, 1) := by decide +kernel
theorem dX13_next_318 : decode cX13_next 318 = .ok (.bipush 62, 2) := by decide +kernel
theorem dX13_next_320 : decode cX13_next 320 = .ok (.if_icmp .eq 15, 3) := by decide +kernel
theorem dX13_next_323 : decode cX13_next 323 = .ok (.iload_n 1, 1) := by decide +kernel
theorem dX13_next_324 : decode cX13_next 324 = .ok (.bipush 61, 2) := by decide +kernel
theorem dX13_next_326 : decode cX13_next 326 = .ok (.if_icmp .eq 9, 3) := by decide +kernel
theorem dX13_next_329 : decode cX13_next 329 = .ok (.iload_n 1, 1) := by decide +kernel
theorem dX13_next_330 : decode cX13_next 330 = .ok (.bipush 59, 2) := by decide +kernel
theorem dX13_next_332 : decode cX13_next 332 = .ok (.if_icmp .ne 7, 3) := by decide +kernel
theorem dX13_next_335 : decode cX13_next 335 = .ok (.iconst 3, 1) := by decide +kernel
theorem dX13_next_336 : decode cX13_next 336 = .ok (.goto 4, 3) := by decide +kernel
theorem dX13_next_339 : decode cX13_next 339 = .ok (.iconst 4, 1) := by decide +kernel
theorem dX13_next_340 : decode cX13_next 340 = .ok (.putfield 281, 3) := by decide +kernel
theorem dX13_next_343 : decode cX13_next 343 = .ok (.aload_n 0, 1) := by decide +kernel
theorem dX13_next_344 : decode cX13_next 344 = .ok (.iload_n 1, 1) := by decide +kernel
theorem dX13_next_345 : decode cX13_next 345 = .ok (.putfield 278, 3) := by decide +kernel
theorem dX13_next_348 : decode cX13_next 348 = .ok (.aload_n 0, 1) := by decide +kernel
theorem dX13_next_349 : decode cX13_next 349 = .ok (.dup, 1) := by decide +kernel
theorem dX13_next_350 : decode cX13_next 350 = .ok (.getfield 272, 3) := by decide +kernel
theorem dX13_next_353 : decode cX13_next 353 = .ok (.iconst 1, 1) := by decide +kernel
theorem dX13_next_354 : decode cX13_next 354 = .ok (.iadd, 1) := by decide +kernel
theorem dX13_next_355 : decode cX13_next 355 = .ok (.putfield 272, 3) := by decide +kernel
theorem dX13_next_358 : decode cX13_next 358 = .ok (.return_, 1) := by decide +kernel
theorem dX13_isSign_0 : decode cX13_isSign 0 = .ok (.aload_n 0, 1) := by decide +kernel
theorem dX13_isSign_1 : decode cX13_isSign 1 = .ok (.getfield 281, 3) := by decide +kernel
theorem dX13_isSign_4 : decode cX13_isSign 4 = .ok (.iconst 3, 1) := by decide +kernel
theorem dX13_isSign_5 : decode cX13_isSign 5 = .ok (.if_icmp .ne 15, 3) := by decide +kernel
theorem dX13_isSign_8 : decode cX13_isSign 8 = .ok (.aload_n 0, 1) := by decide +kernel
theorem dX13_isSign_9 : decode cX13_isSign 9 = .ok (.getfield 278, 3) := by decide +kernel
theorem dX13_isSign_12 : decode cX13_isSign 12 = .ok (.iload_n 1, 1) := by decide +kernel
theorem dX13_isSign_13 : decode cX13_isSign 13 = .ok (.if_icmp .ne 7, 3) := by decide +kernel
theorem dX13_isSign_16 : decode cX13_isSign 16 = .ok (.iconst 1, 1) := by decide +kernel
theorem dX13_isSign_17 : decode cX13_isSign 17 = .ok (.goto 4, 3) := by decide +kernel
theorem dX13_isSign_20 : decode cX13_isSign 20 = .ok (.iconst 0, 1) := by decide +kernel
theorem dX13_isSign_21 : decode cX13_isSign 21 = .ok (.ireturn, 1) := by decide +kernel
theorem dX13_isWord_0 : decode cX13_isWord 0 = .ok (.aload_n 0, 1) := by decide +kernel
theorem dX13_isWord_1 : decode cX13_isWord 1 = .ok (.getfield 281, 3) := by decide +kernel
theorem dX13_isWord_4 : decode cX13_isWord 4 = .ok (.iconst 2, 1) := by decide +kernel
theorem dX13_isWord_5 : decode cX13_isWord 5 = .ok (.if_icmp .ne 15, 3) := by decide +kernel
theorem dX13_isWord_8 : decode cX13_isWord 8 = .ok (.aload_n 0, 1) := by decide +kernel
theorem dX13_isWord_9 : decode cX13_isWord 9 = .ok (.getfield 278, 3) := by decide +kernel
theorem dX13_isWord_12 : decode cX13_isWord 12 = .ok (.iload_n 1, 1) := by decide +kernel
theorem dX13_isWord_13 : decode cX13_isWord 13 = .ok (.if_icmp .ne 7, 3) := by decide +kernel
theorem dX13_isWord_16 : decode cX13_isWord 16 = .ok (.iconst 1, 1) := by decide +kernel
theorem dX13_isWord_17 : decode cX13_isWord 17 = .ok (.goto 4, 3) := by decide +kernel
theorem dX13_isWord_20 : decode cX13_isWord 20 = .ok (.iconst 0, 1) := by decide +kernel
theorem dX13_isWord_21 : decode cX13_isWord 21 = .ok (.ireturn, 1) := by decide +kernel
theorem dX13_push_0 : decode cX13_push 0 = .ok (.aload_n 0, 1) := by decide +kernel
theorem dX13_push_1 : decode cX13_push 1 = .ok (.getfield 13, 3) := by decide +kernel
theorem dX13_push_4 : decode cX13_push 4 = .ok (.aload_n 0, 1) := by decide +kernel
theorem dX13_push_5 : decode cX13_push 5 = .ok (.getfield 295, 3) := by decide +kernel
theorem dX13_push_8 : decode cX13_push 8 = .ok (.iload_n 1, 1) := by decide +kernel
theorem dX13_push_9 : decode cX13_push 9 = .ok (.iastore, 1) := by decide +kernel
theorem dX13_push_10 : decode cX13_push 10 = .ok (.aload_n 0, 1) := by decide +kernel
theorem dX13_push_11 : decode cX13_push 11 = .ok (.dup, 1) := by decide +kernel
theorem dX13_push_12 : decode cX13_push 12 = .ok (.getfield 295, 3) := by decide +kernel
theorem dX13_push_15 : decode cX13_push 15 = .ok (.iconst 1, 1) := by decide +kernel
theorem dX13_push_16 : decode cX13_push 16 = .ok (.iadd, 1) := by decide +kernel
theorem dX13_push_17 : decode cX13_push 17 = .ok (.putfield 295, 3) := by decide +kernel
theorem dX13_push_20 : decode cX13_push 20 = .ok (.return_, 1) := by decide +kernel
theorem dX13_emits_0 : decode cX13_emits 0 = .ok (.aload_n 0, 1) := by decide +kernel
theorem dX13_emits_1 : decode cX13_emits 1 = .ok (.getfield 17, 3) := by decide +kernel
theorem dX13_emits_4 : decode cX13_emits 4 = .ok (.aload_n 0, 1) := by decide +kernel
theorem dX13_emits_5 : decode cX13_emits 5 = .ok (.getfield 298, 3) := by decide +kernel
theorem dX13_emits_8 : decode cX13_emits 8 = .ok (.iload_n 1, 1) := by decide +kernel
theorem dX13_emits_9 : decode cX13_emits 9 = .ok (.iastore, 1) := by decide +kernel
theorem dX13_emits_10 : decode cX13_emits 10 = .ok (.aload_n 0, 1) := by decide +kernel
theorem dX13_emits_11 : decode cX13_emits 11 = .ok (.getfield 20, 3) := by decide +kernel
theorem dX13_emits_14 : decode cX13_emits 14 = .ok (.aload_n 0, 1) := by decide +kernel
theorem dX13_emits_15 : decode cX13_emits 15 = .ok (.getfield 298, 3) := by decide +kernel
theorem dX13_emits_18 : decode cX13_emits 18 = .ok (.iload_n 2, 1) := by decide +kernel
theorem dX13_emits_19 : decode cX13_emits 19 = .ok (.iastore, 1) := by decide +kernel
theorem dX13_emits_20 : decode cX13_emits 20 = .ok (.aload_n 0, 1) := by decide +kernel
theorem dX13_emits_21 : decode cX13_emits 21 = .ok (.dup, 1) := by decide +kernel
theorem dX13_emits_22 : decode cX13_emits 22 = .ok (.getfield 298, 3) := by decide +kernel
theorem dX13_emits_25 : decode cX13_emits 25 = .ok (.iconst 1, 1) := by decide +kernel
theorem dX13_emits_26 : decode cX13_emits 26 = .ok (.iadd, 1) := by decide +kernel
theorem dX13_emits_27 : decode cX13_emits 27 = .ok (.putfield 298, 3) := by decide +kernel
theorem dX13_emits_30 : decode cX13_emits 30 = .ok (.return_, 1) := by decide +kernel
set_option maxRecDepth 20000 in
theorem ggX13_takes_X13_next : GoodIn wsX13_takes wsX13_next := goodIn_r _ [5, 6, 7, 8, 9, 10, 11, 12, 13, 14, 4, 15, 16, 17, 18, 19, 20, 21, 22, 23, 24, 25, 26, 27, 28, 29, 30, 31, 32, 33, 34, 35, 36, 37, 38, 39, 40, 41, 42, 43, 44, 45, 46, 47, 48, 49, 50, 51, 52, 53, 54, 55, 56, 57, 58, 59, 60, 61, 62, 63, 64, 65, 66, 67, 68, 69, 70, 71, 72, 73, 74, 75, 76, 77, 78, 79, 80, 81, 82, 83, 84, 85, 86, 87, 88, 89, 90, 91, 92, 93, 94, 95, 96, 97, 98, 99, 100, 101, 102, 103, 104, 105, 106, 107, 108, 109, 110, 111, 112, 113, 114, 115, 116, 117, 118, 119, 120, 121, 122, 123, 124, 125, 126, 127, 128, 129, 130, 131, 132, 133, 134, 135, 136, 137, 138, 139, 140, 141, 142, 143, 144, 145, 146, 147, 148, 149, 150, 151, 152, 153, 154, 155, 156, 157, 158, 159, 160, 161, 162, 163, 164, 165, 166, 167, 168, 169, 170, 171, 172, 173, 174, 175] (by decide +kernel) (by decide +kernel)
set_option maxRecDepth 20000 in
theorem gX13_takes_X13_next : GoodIn wsX13_takes (wsV RX13 301 RX13 yX13_next wsX13_next) := goodIn_app (goodIn_of _ (by decide +kernel)) ggX13_takes_X13_next
theorem dX13_takes_0 : decode cX13_takes 0 = .ok (.aload_n 0, 1) := by decide +kernel
theorem dX13_takes_1 : decode cX13_takes 1 = .ok (.invokevirtual 301, 3) := by decide +kernel
theorem dX13_takes_4 : decode cX13_takes 4 = .ok (.iconst 1, 1) := by decide +kernel
theorem dX13_takes_5 : decode cX13_takes 5 = .ok (.ireturn, 1) := by decide +kernel
set_option maxRecDepth 20000 in
theorem ggX13_deeper_X13_push : GoodIn wsX13_deeper wsX13_push := goodIn_r _ [6, 7, 8, 9, 10, 11, 12, 13, 14, 15, 16, 17, 18, 19, 20, 21, 22, 23, 24, 25, 26, 27, 28, 29, 30, 31, 32, 33, 34, 35, 36, 37, 38, 39, 40, 41, 42, 43, 44, 45, 46, 47, 48, 49, 50, 51, 52, 53, 54, 55, 56, 57, 58, 59, 60, 61, 62, 63, 64, 65, 66, 67, 68, 69, 70, 71, 72, 73, 74, 75, 76, 77, 78, 79, 80, 81, 82, 83, 84, 85, 86, 87, 88, 89, 90, 91, 92, 93, 94, 95, 96, 97, 98, 99, 100, 101, 102, 103, 104, 105, 106, 107, 108, 109, 110, 111, 112] (by decide +kernel) (by decide +kernel)
set_option maxRecDepth 20000 in
theorem gX13_deeper_X13_push : GoodIn wsX13_deeper (wsV RX13 307 RX13 yX13_push wsX13_push) := goodIn_app (goodIn_of _ (by decide +kernel)) ggX13_deeper_X13_push
theorem dX13_deeper_0 : decode cX13_deeper 0 = .ok (.aload_n 0, 1) := by decide +kernel
theorem dX13_deeper_1 : decode cX13_deeper 1 = .ok (.getfield 304, 3) := by decide +kernel
theorem dX13_deeper_4 : decode cX13_deeper 4 = .ok (.bipush 8, 2) := by decide +kernel
theorem dX13_deeper_6 : decode cX13_deeper 6 = .ok (.if_icmp .ne 5, 3) := by decide +kernel
theorem dX13_deeper_9 : decode cX13_deeper 9 = .ok (.iconst 0, 1) := by decide +kernel
theorem dX13_deeper_10 : decode cX13_deeper 10 = .ok (.ireturn, 1) := by decide +kernel
theorem dX13_deeper_11 : decode cX13_deeper 11 = .ok (.aload_n 0, 1) := by decide +kernel
theorem dX13_deeper_12 : decode cX13_deeper 12 = .ok (.dup, 1) := by decide +kernel
theorem dX13_deeper_13 : decode cX13_deeper 13 = .ok (.getfield 304, 3) := by decide +kernel
theorem dX13_deeper_16 : decode cX13_deeper 16 = .ok (.iconst 1, 1) := by decide +kernel
theorem dX13_deeper_17 : decode cX13_deeper 17 = .ok (.iadd, 1) := by decide +kernel
theorem dX13_deeper_18 : decode cX13_deeper 18 = .ok (.putfield 304, 3) := by decide +kernel
theorem dX13_deeper_21 : decode cX13_deeper 21 = .ok (.aload_n 0, 1) := by decide +kernel
theorem dX13_deeper_22 : decode cX13_deeper 22 = .ok (.bipush 12, 2) := by decide +kernel
theorem dX13_deeper_24 : decode cX13_deeper 24 = .ok (.invokevirtual 307, 3) := by decide +kernel
theorem dX13_deeper_27 : decode cX13_deeper 27 = .ok (.iconst 1, 1) := by decide +kernel
theorem dX13_deeper_28 : decode cX13_deeper 28 = .ok (.ireturn, 1) := by decide +kernel
set_option maxRecDepth 20000 in
theorem ggX13_steps_X13_emits : GoodIn wsX13_steps wsX13_emits := goodIn_r _ [9, 10, 4, 11, 152, 153, 154, 155, 156, 157, 158, 159, 160, 161, 162, 163, 164, 165, 166, 167, 168, 169, 170, 171, 172, 173, 174, 175, 176, 177, 178, 179, 180, 181, 182, 183, 184, 185, 186, 187, 188, 189, 190, 191, 192, 193, 194, 195, 196, 197, 198, 199, 200, 201, 202, 203, 204, 205, 206, 207, 208, 209, 210, 211, 212, 213, 214, 215, 216, 217, 218, 219, 220, 221, 222, 223, 224, 225, 226, 227, 228, 229, 230, 231, 232, 233, 234, 235, 236, 237, 238, 239, 240, 241, 242, 243, 244, 245, 246, 247, 248, 249, 250, 251, 252, 253, 254, 255] (by decide +kernel) (by decide +kernel)
set_option maxRecDepth 20000 in
theorem gX13_steps_X13_emits : GoodIn wsX13_steps (wsV RX13 311 RX13 yX13_emits wsX13_emits) := goodIn_app (goodIn_of _ (by decide +kernel)) ggX13_steps_X13_emits
set_option maxRecDepth 20000 in
theorem ggX13_steps_X13_isSign : GoodIn wsX13_steps wsX13_isSign := goodIn_r _ [15, 16, 17, 152, 153, 154, 155, 156, 157, 158, 159, 160, 161, 162, 163, 164, 165, 166, 167, 168, 169, 170, 171, 172, 173, 174, 175, 176, 177, 178, 179, 180, 181, 182, 183, 184, 185, 186, 187, 188, 189, 190, 191, 192, 193, 194, 195, 196, 197, 198, 199, 200, 201, 202, 203, 204, 205, 206, 207, 208, 209, 210, 211, 212, 213, 214, 215, 216, 217, 218, 219, 220, 221, 222, 223, 224, 225, 226, 227, 228, 229, 230, 231, 232, 233, 234, 235, 236, 237, 238, 239, 240, 241, 242, 243, 244, 245, 246, 247, 248, 249, 250, 251, 252, 253, 254, 255] (by decide +kernel) (by decide +kernel)
set_option maxRecDepth 20000 in
theorem gX13_steps_X13_isSign : GoodIn wsX13_steps (wsV RX13 315 RX13 yX13_isSign wsX13_isSign) := goodIn_app (goodIn_of _ (by decide +kernel)) ggX13_steps_X13_isSign
set_option maxRecDepth 20000 in
theorem ggX13_steps_X13_takes : GoodIn wsX13_steps wsX13_takes := goodIn_r _ [21, 22, 23, 24, 8, 25, 26, 27, 28, 29, 17, 16, 30, 31, 32, 33, 34, 35, 36, 37, 38, 39, 40, 41, 42, 43, 44, 45, 46, 47, 48, 49, 50, 51, 52, 53, 54, 55, 56, 57, 58, 59, 60, 61, 62, 63, 64, 65, 66, 67, 68, 69, 70, 71, 72, 73, 74, 75, 76, 77, 78, 79, 80, 81, 82, 83, 84, 85, 86, 87, 88, 89, 152, 153, 154, 155, 156, 157, 158, 159, 160, 161, 162, 163, 164, 165, 166, 167, 168, 169, 170, 171, 172, 173, 174, 175, 176, 177, 178, 179, 180, 181, 182, 183, 184, 185, 186, 187, 188, 189, 190, 191, 192, 193, 194, 195, 196, 197, 198, 199, 200, 201, 202, 203, 204, 205, 206, 207, 208, 209, 210, 211, 212, 213, 214, 215, 216, 217, 218, 219, 220, 221, 222, 223, 224, 225, 226, 227, 228, 229, 230, 231, 232, 233, 234, 235, 236, 237, 238, 239, 240, 241, 242, 243, 244, 245, 246, 247, 248, 249, 250, 251, 252, 253, 254, 255] (by decide +kernel) (by decide +kernel)
set_option maxRecDepth 20000 in
theorem gX13_steps_X13_takes : GoodIn wsX13_steps (wsV RX13 318 RX13 yX13_takes wsX13_takes) := goodIn_app (goodIn_of _ (by decide +kernel)) ggX13_steps_X13_takes
set_option maxRecDepth 20000 in
theorem ggX13_steps_X13_clauses : GoodIn wsX13_steps wsX13_clauses := goodIn_r _ [93, 16, 17, 94, 95, 8, 96, 97, 98, 99, 100, 101, 102, 103, 104, 105, 106, 26, 29, 107, 108, 109, 22, 23, 24, 25, 27, 28, 30, 31, 32, 33, 34, 35, 36, 37, 38, 39, 40, 41, 42, 43, 44, 45, 46, 47, 48, 49, 50, 51, 52, 53, 54, 55, 56, 57, 58, 59, 60, 61, 62, 63, 64, 65, 66, 67, 68, 69, 70, 71, 72, 73, 74, 75, 76, 77, 78, 79, 80, 81, 82, 83, 84, 85, 86, 87, 88, 89, 18, 19, 20, 21, 110, 111, 112, 113, 114, 4, 2, 115, 116, 117, 118, 5, 6, 7, 9, 10, 11, 119, 120, 121, 122, 3, 152, 153, 154, 155, 156, 157, 158, 159, 160, 161, 162, 163, 164, 165, 166, 167, 168, 169, 170, 171, 172, 173, 174, 175, 176, 177, 178, 179, 180, 181, 182, 183, 184, 185, 186, 187, 188, 189, 190, 191, 192, 193, 194, 195, 196, 197, 198, 199, 200, 201, 202, 203, 204, 205, 206, 207, 208, 209, 210, 211, 212, 213, 214, 215, 216, 217, 218, 219, 220, 221, 222, 223, 224, 225, 226, 227, 228, 229, 230, 231, 232, 233, 234, 235, 236, 237, 238, 239, 240, 241, 242, 243, 244, 245, 246, 247, 248, 249, 250, 251, 252, 253, 254, 255] (by decide +kernel) (by decide +kernel)
set_option maxRecDepth 20000 in
theorem gX13_steps_X13_clauses : GoodIn wsX13_steps (wsV RX13 322 RX13 yX13_clauses wsX13_clauses) := goodIn_app (goodIn_of _ (by decide +kernel)) ggX13_steps_X13_clauses
set_option maxRecDepth 20000 in
theorem ggX13_steps_X13_both : GoodIn wsX13_steps wsX13_both := goodIn_r _ [126, 97, 98, 99, 8, 100, 101, 102, 152, 153, 154, 155, 156, 157, 158, 159, 160, 161, 162, 163, 164, 165, 166, 167, 168, 169, 170, 171, 172, 173, 174, 175, 176, 177, 178, 179, 180, 181, 182, 183, 184, 185, 186, 187, 188, 189, 190, 191, 192, 193, 194, 195, 196, 197, 198, 199, 200, 201, 202, 203, 204, 205, 206, 207, 208, 209, 210, 211, 212, 213, 214, 215, 216, 217, 218, 219, 220, 221, 222, 223, 224, 225, 226, 227, 228, 229, 230, 231, 232, 233, 234, 235, 236, 237, 238, 239, 240, 241, 242, 243, 244, 245, 246, 247, 248, 249, 250, 251, 252, 253, 254, 255] (by decide +kernel) (by decide +kernel)
set_option maxRecDepth 20000 in
theorem gX13_steps_X13_both : GoodIn wsX13_steps (wsV RX13 325 RX13 yX13_both wsX13_both) := goodIn_app (goodIn_of _ (by decide +kernel)) ggX13_steps_X13_both
set_option maxRecDepth 20000 in
theorem ggX13_steps_X13_more : GoodIn wsX13_steps wsX13_more := goodIn_r _ [130, 12, 13, 14, 8, 15, 16, 17, 22, 23, 24, 25, 26, 27, 28, 29, 30, 31, 32, 33, 34, 35, 36, 37, 38, 39, 40, 41, 42, 43, 44, 45, 46, 47, 48, 49, 50, 51, 52, 53, 54, 55, 56, 57, 58, 59, 60, 61, 62, 63, 64, 65, 66, 67, 68, 69, 70, 71, 72, 73, 74, 75, 76, 77, 78, 79, 80, 81, 82, 83, 84, 85, 86, 87, 88, 89, 97, 98, 99, 100, 101, 102, 152, 153, 154, 155, 156, 157, 158, 159, 160, 161, 162, 163, 164, 165, 166, 167, 168, 169, 170, 171, 172, 173, 174, 175, 176, 177, 178, 179, 180, 181, 182, 183, 184, 185, 186, 187, 188, 189, 190, 191, 192, 193, 194, 195, 196, 197, 198, 199, 200, 201, 202, 203, 204, 205, 206, 207, 208, 209, 210, 211, 212, 213, 214, 215, 216, 217, 218, 219, 220, 221, 222, 223, 224, 225, 226, 227, 228, 229, 230, 231, 232, 233, 234, 235, 236, 237, 238, 239, 240, 241, 242, 243, 244, 245, 246, 247, 248, 249, 250, 251, 252, 253, 254, 255] (by decide +kernel) (by decide +kernel)
set_option maxRecDepth 20000 in
theorem gX13_steps_X13_more : GoodIn wsX13_steps (wsV RX13 329 RX13 yX13_more wsX13_more) := goodIn_app (goodIn_of _ (by decide +kernel)) ggX13_steps_X13_more
set_option maxRecDepth 20000 in
theorem ggX13_steps_X13_factor : GoodIn wsX13_steps wsX13_factor := goodIn_r _ [134, 16, 17, 135, 5, 6, 7, 8, 9, 10, 4, 11, 18, 19, 20, 21, 22, 23, 24, 25, 26, 27, 28, 29, 30, 31, 32, 33, 34, 35, 36, 37, 38, 39, 40, 41, 42, 43, 44, 45, 46, 47, 48, 49, 50, 51, 52, 53, 54, 55, 56, 57, 58, 59, 60, 61, 62, 63, 64, 65, 66, 67, 68, 69, 70, 71, 72, 73, 74, 75, 76, 77, 78, 79, 80, 81, 82, 83, 84, 85, 86, 87, 88, 89, 94, 95, 96, 12, 13, 14, 15, 136, 137, 138, 139, 1, 97, 98, 99, 100, 101, 102, 152, 153, 154, 155, 156, 157, 158, 159, 160, 161, 162, 163, 164, 165, 166, 167, 168, 169, 170, 171, 172, 173, 174, 175, 176, 177, 178, 179, 180, 181, 182, 183, 184, 185, 186, 187, 188, 189, 190, 191, 192, 193, 194, 195, 196, 197, 198, 199, 200, 201, 202, 203, 204, 205, 206, 207, 208, 209, 210, 211, 212, 213, 214, 215, 216, 217, 218, 219, 220, 221, 222, 223, 224, 225, 226, 227, 228, 229, 230, 231, 232, 233, 234, 235, 236, 237, 238, 239, 240, 241, 242, 243, 244, 245, 246, 247, 248, 249, 250, 251, 252, 253, 254, 255] (by decide +kernel) (by decide +kernel)
set_option maxRecDepth 20000 in
theorem gX13_steps_X13_factor : GoodIn wsX13_steps (wsV RX13 333 RX13 yX13_factor wsX13_factor) := goodIn_app (goodIn_of _ (by decide +kernel)) ggX13_steps_X13_factor
set_option maxRecDepth 20000 in
theorem ggX13_steps_X13_moreWords : GoodIn wsX13_steps wsX13_moreWords := goodIn_r _ [143, 115, 116, 117, 8, 118, 16, 17, 22, 23, 24, 25, 26, 27, 28, 29, 30, 31, 32, 33, 34, 35, 36, 37, 38, 39, 40, 41, 42, 43, 44, 45, 46, 47, 48, 49, 50, 51, 52, 53, 54, 55, 56, 57, 58, 59, 60, 61, 62, 63, 64, 65, 66, 67, 68, 69, 70, 71, 72, 73, 74, 75, 76, 77, 78, 79, 80, 81, 82, 83, 84, 85, 86, 87, 88, 89, 97, 98, 99, 100, 101, 102, 152, 153, 154, 155, 156, 157, 158, 159, 160, 161, 162, 163, 164, 165, 166, 167, 168, 169, 170, 171, 172, 173, 174, 175, 176, 177, 178, 179, 180, 181, 182, 183, 184, 185, 186, 187, 188, 189, 190, 191, 192, 193, 194, 195, 196, 197, 198, 199, 200, 201, 202, 203, 204, 205, 206, 207, 208, 209, 210, 211, 212, 213, 214, 215, 216, 217, 218, 219, 220, 221, 222, 223, 224, 225, 226, 227, 228, 229, 230, 231, 232, 233, 234, 235, 236, 237, 238, 239, 240, 241, 242, 243, 244, 245, 246, 247, 248, 249, 250, 251, 252, 253, 254, 255] (by decide +kernel) (by decide +kernel)
set_option maxRecDepth 20000 in
theorem gX13_steps_X13_moreWords : GoodIn wsX13_steps (wsV RX13 336 RX13 yX13_moreWords wsX13_moreWords) := goodIn_app (goodIn_of _ (by decide +kernel)) ggX13_steps_X13_moreWords
set_option maxRecDepth 20000 in
theorem ggX13_steps_X13_holds : GoodIn wsX13_steps wsX13_holds := goodIn_r _ [147, 115, 116, 117, 8, 118, 16, 17, 136, 137, 138, 139, 1, 97, 98, 99, 100, 101, 102, 18, 19, 20, 21, 22, 23, 24, 25, 26, 27, 28, 29, 30, 31, 32, 33, 34, 35, 36, 37, 38, 39, 40, 41, 42, 43, 44, 45, 46, 47, 48, 49, 50, 51, 52, 53, 54, 55, 56, 57, 58, 59, 60, 61, 62, 63, 64, 65, 66, 67, 68, 69, 70, 71, 72, 73, 74, 75, 76, 77, 78, 79, 80, 81, 82, 83, 84, 85, 86, 87, 88, 89, 12, 13, 14, 15, 123, 124, 125, 126, 152, 153, 154, 155, 156, 157, 158, 159, 160, 161, 162, 163, 164, 165, 166, 167, 168, 169, 170, 171, 172, 173, 174, 175, 176, 177, 178, 179, 180, 181, 182, 183, 184, 185, 186, 187, 188, 189, 190, 191, 192, 193, 194, 195, 196, 197, 198, 199, 200, 201, 202, 203, 204, 205, 206, 207, 208, 209, 210, 211, 212, 213, 214, 215, 216, 217, 218, 219, 220, 221, 222, 223, 224, 225, 226, 227, 228, 229, 230, 231, 232, 233, 234, 235, 236, 237, 238, 239, 240, 241, 242, 243, 244, 245, 246, 247, 248, 249, 250, 251, 252, 253, 254, 255] (by decide +kernel) (by decide +kernel)
set_option maxRecDepth 20000 in
theorem gX13_steps_X13_holds : GoodIn wsX13_steps (wsV RX13 340 RX13 yX13_holds wsX13_holds) := goodIn_app (goodIn_of _ (by decide +kernel)) ggX13_steps_X13_holds
set_option maxRecDepth 20000 in
theorem ggX13_steps_X13_compares : GoodIn wsX13_steps wsX13_compares := goodIn_r _ [151, 12, 13, 14, 8, 15, 16, 17, 97, 98, 99, 100, 101, 102, 18, 19, 20, 21, 22, 23, 24, 25, 26, 27, 28, 29, 30, 31, 32, 33, 34, 35, 36, 37, 38, 39, 40, 41, 42, 43, 44, 45, 46, 47, 48, 49, 50, 51, 52, 53, 54, 55, 56, 57, 58, 59, 60, 61, 62, 63, 64, 65, 66, 67, 68, 69, 70, 71, 72, 73, 74, 75, 76, 77, 78, 79, 80, 81, 82, 83, 84, 85, 86, 87, 88, 89, 152, 153, 154, 155, 156, 157, 158, 159, 160, 161, 162, 163, 164, 165, 166, 167, 168, 169, 170, 171, 172, 173, 174, 175, 176, 177, 178, 179, 180, 181, 182, 183, 184, 185, 186, 187, 188, 189, 190, 191, 192, 193, 194, 195, 196, 197, 198, 199, 200, 201, 202, 203, 204, 205, 206, 207, 208, 209, 210, 211, 212, 213, 214, 215, 216, 217, 218, 219, 220, 221, 222, 223, 224, 225, 226, 227, 228, 229, 230, 231, 232, 233, 234, 235, 236, 237, 238, 239, 240, 241, 242, 243, 244, 245, 246, 247, 248, 249, 250, 251, 252, 253, 254, 255] (by decide +kernel) (by decide +kernel)
set_option maxRecDepth 20000 in
theorem gX13_steps_X13_compares : GoodIn wsX13_steps (wsV RX13 343 RX13 yX13_compares wsX13_compares) := goodIn_app (goodIn_of _ (by decide +kernel)) ggX13_steps_X13_compares
theorem dX13_steps_0 : decode cX13_steps 0 = .ok (.iload_n 1, 1) := by decide +kernel
theorem dX13_steps_1 : decode cX13_steps 1 = .ok (.sipush 1000, 3) := by decide +kernel
theorem dX13_steps_4 : decode cX13_steps 4 = .ok (.if_icmp .lt 15, 3) := by decide +kernel
theorem dX13_steps_7 : decode cX13_steps 7 = .ok (.aload_n 0, 1) := by decide +kernel
theorem dX13_steps_8 : decode cX13_steps 8 = .ok (.iload_n 1, 1) := by decide +kernel
theorem dX13_steps_9 : decode cX13_steps 9 = .ok (.sipush 1000, 3) := by decide +kernel
theorem dX13_steps_12 : decode cX13_steps 12 = .ok (.isub, 1) := by decide +kernel
theorem dX13_steps_13 : decode cX13_steps 13 = .ok (.iconst 0, 1) := by decide +kernel
theorem dX13_steps_14 : decode cX13_steps 14 = .ok (.invokevirtual 311, 3) := by decide +kernel
theorem dX13_steps_17 : decode cX13_steps 17 = .ok (.iconst 1, 1) := by decide +kernel
theorem dX13_steps_18 : decode cX13_steps 18 = .ok (.ireturn, 1) := by decide +kernel
theorem dX13_steps_19 : decode cX13_steps 19 = .ok (.iload_n 1, 1) := by decide +kernel
theorem dX13_steps_20 : decode cX13_steps 20 = .ok (.bipush 100, 2) := by decide +kernel
theorem dX13_steps_22 : decode cX13_steps 22 = .ok (.if_icmp .lt 27, 3) := by decide +kernel
theorem dX13_steps_25 : decode cX13_steps 25 = .ok (.aload_n 0, 1) := by decide +kernel
theorem dX13_steps_26 : decode cX13_steps 26 = .ok (.iload_n 1, 1) := by decide +kernel
theorem dX13_steps_27 : decode cX13_steps 27 = .ok (.bipush 100, 2) := by decide +kernel
theorem dX13_steps_29 : decode cX13_steps 29 = .ok (.isub, 1) := by decide +kernel
theorem dX13_steps_30 : decode cX13_steps 30 = .ok (.invokevirtual 315, 3) := by decide +kernel
theorem dX13_steps_33 : decode cX13_steps 33 = .ok (.ifCond .eq 14, 3) := by decide +kernel
theorem dX13_steps_36 : decode cX13_steps 36 = .ok (.aload_n 0, 1) := by decide +kernel
theorem dX13_steps_37 : decode cX13_steps 37 = .ok (.invokevirtual 318, 3) := by decide +kernel
theorem dX13_steps_40 : decode cX13_steps 40 = .ok (.ifCond .eq 7, 3) := by decide +kernel
theorem dX13_steps_43 : decode cX13_steps 43 = .ok (.iconst 1, 1) := by decide +kernel
theorem dX13_steps_44 : decode cX13_steps 44 = .ok (.goto 4, 3) := by decide +kernel
theorem dX13_steps_47 : decode cX13_steps 47 = .ok (.iconst 0, 1) := by decide +kernel
theorem dX13_steps_48 : decode cX13_steps 48 = .ok (.ireturn, 1) := by decide +kernel
theorem dX13_steps_49 : decode cX13_steps 49 = .ok (.iload_n 1, 1) := by decide +kernel
theorem dX13_steps_50 : decode cX13_steps 50 = .ok (.tableswitch 182 0 12 #[66, 71, 78, 91, 98, 111, 116, 125, 138, 147, 160, 165, 170], 66) := by decide +kernel
theorem dX13_steps_116 : decode cX13_steps 116 = .ok (.aload_n 0, 1) := by decide +kernel
theorem dX13_steps_117 : decode cX13_steps 117 = .ok (.invokevirtual 322, 3) := by decide +kernel
theorem dX13_steps_120 : decode cX13_steps 120 = .ok (.ireturn, 1) := by decide +kernel
theorem dX13_steps_121 : decode cX13_steps 121 = .ok (.aload_n 0, 1) := by decide +kernel
theorem dX13_steps_122 : decode cX13_steps 122 = .ok (.iconst 2, 1) := by decide +kernel
theorem dX13_steps_123 : decode cX13_steps 123 = .ok (.iconst 3, 1) := by decide +kernel
theorem dX13_steps_124 : decode cX13_steps 124 = .ok (.invokevirtual 325, 3) := by decide +kernel
theorem dX13_steps_127 : decode cX13_steps 127 = .ok (.ireturn, 1) := by decide +kernel
theorem dX13_steps_128 : decode cX13_steps 128 = .ok (.aload_n 0, 1) := by decide +kernel
theorem dX13_steps_129 : decode cX13_steps 129 = .ok (.bipush 43, 2) := by decide +kernel
theorem dX13_steps_131 : decode cX13_steps 131 = .ok (.iconst 2, 1) := by decide +kernel
theorem dX13_steps_132 : decode cX13_steps 132 = .ok (.bipush 45, 2) := by decide +kernel
theorem dX13_steps_134 : decode cX13_steps 134 = .ok (.iconst 3, 1) := by decide +kernel
theorem dX13_steps_135 : decode cX13_steps 135 = .ok (.iconst 2, 1) := by decide +kernel
theorem dX13_steps_136 : decode cX13_steps 136 = .ok (.iconst 3, 1) := by decide +kernel
theorem dX13_steps_137 : decode cX13_steps 137 = .ok (.invokevirtual 329, 3) := by decide +kernel
theorem dX13_steps_140 : decode cX13_steps 140 = .ok (.ireturn, 1) := by decide +kernel
theorem dX13_steps_141 : decode cX13_steps 141 = .ok (.aload_n 0, 1) := by decide +kernel
theorem dX13_steps_142 : decode cX13_steps 142 = .ok (.iconst 4, 1) := by decide +kernel
theorem dX13_steps_143 : decode cX13_steps 143 = .ok (.iconst 5, 1) := by decide +kernel
theorem dX13_steps_144 : decode cX13_steps 144 = .ok (.invokevirtual 325, 3) := by decide +kernel
theorem dX13_steps_147 : decode cX13_steps 147 = .ok (.ireturn, 1) := by decide +kernel
theorem dX13_steps_148 : decode cX13_steps 148 = .ok (.aload_n 0, 1) := by decide +kernel
theorem dX13_steps_149 : decode cX13_steps 149 = .ok (.bipush 42, 2) := by decide +kernel
theorem dX13_steps_151 : decode cX13_steps 151 = .ok (.iconst 4, 1) := by decide +kernel
theorem dX13_steps_152 : decode cX13_steps 152 = .ok (.bipush 47, 2) := by decide +kernel
theorem dX13_steps_154 : decode cX13_steps 154 = .ok (.iconst 5, 1) := by decide +kernel
theorem dX13_steps_155 : decode cX13_steps 155 = .ok (.iconst 4, 1) := by decide +kernel
theorem dX13_steps_156 : decode cX13_steps 156 = .ok (.iconst 5, 1) := by decide +kernel
theorem dX13_steps_157 : decode cX13_steps 157 = .ok (.invokevirtual 329, 3) := by decide +kernel
theorem dX13_steps_160 : decode cX13_steps 160 = .ok (.ireturn, 1) := by decide +kernel
theorem dX13_steps_161 : decode cX13_steps 161 = .ok (.aload_n 0, 1) := by decide +kernel
theorem dX13_steps_162 : decode cX13_steps 162 = .ok (.invokevirtual 333, 3) := by decide +kernel
theorem dX13_steps_165 : decode cX13_steps 165 = .ok (.ireturn, 1) := by decide +kernel
theorem dX13_steps_166 : decode cX13_steps 166 = .ok (.aload_n 0, 1) := by decide +kernel
theorem dX13_steps_167 : decode cX13_steps 167 = .ok (.bipush 7, 2) := by decide +kernel
theorem dX13_steps_169 : decode cX13_steps 169 = .ok (.bipush 8, 2) := by decide +kernel
theorem dX13_steps_171 : decode cX13_steps 171 = .ok (.invokevirtual 325, 3) := by decide +kernel
theorem dX13_steps_174 : decode cX13_steps 174 = .ok (.ireturn, 1) := by decide +kernel
theorem dX13_steps_175 : decode cX13_steps 175 = .ok (.aload_n 0, 1) := by decide +kernel
theorem dX13_steps_176 : decode cX13_steps 176 = .ok (.bipush 25, 2) := by decide +kernel
theorem dX13_steps_178 : decode cX13_steps 178 = .ok (.bipush 10, 2) := by decide +kernel
theorem dX13_steps_180 : decode cX13_steps 180 = .ok (.bipush 7, 2) := by decide +kernel
theorem dX13_steps_182 : decode cX13_steps 182 = .ok (.bipush 8, 2) := by decide +kernel
theorem dX13_steps_184 : decode cX13_steps 184 = .ok (.invokevirtual 336, 3) := by decide +kernel
theorem dX13_steps_187 : decode cX13_steps 187 = .ok (.ireturn, 1) := by decide +kernel
theorem dX13_steps_188 : decode cX13_steps 188 = .ok (.aload_n 0, 1) := by decide +kernel
theorem dX13_steps_189 : decode cX13_steps 189 = .ok (.bipush 9, 2) := by decide +kernel
theorem dX13_steps_191 : decode cX13_steps 191 = .ok (.bipush 10, 2) := by decide +kernel
theorem dX13_steps_193 : decode cX13_steps 193 = .ok (.invokevirtual 325, 3) := by decide +kernel
theorem dX13_steps_196 : decode cX13_steps 196 = .ok (.ireturn, 1) := by decide +kernel
theorem dX13_steps_197 : decode cX13_steps 197 = .ok (.aload_n 0, 1) := by decide +kernel
theorem dX13_steps_198 : decode cX13_steps 198 = .ok (.bipush 26, 2) := by decide +kernel
theorem dX13_steps_200 : decode cX13_steps 200 = .ok (.bipush 9, 2) := by decide +kernel
theorem dX13_steps_202 : decode cX13_steps 202 = .ok (.bipush 9, 2) := by decide +kernel
theorem dX13_steps_204 : decode cX13_steps 204 = .ok (.bipush 10, 2) := by decide +kernel
theorem dX13_steps_206 : decode cX13_steps 206 = .ok (.invokevirtual 336, 3) := by decide +kernel
theorem dX13_steps_209 : decode cX13_steps 209 = .ok (.ireturn, 1) := by decide +kernel
theorem dX13_steps_210 : decode cX13_steps 210 = .ok (.aload_n 0, 1) := by decide +kernel
theorem dX13_steps_211 : decode cX13_steps 211 = .ok (.invokevirtual 340, 3) := by decide +kernel
theorem dX13_steps_214 : decode cX13_steps 214 = .ok (.ireturn, 1) := by decide +kernel
theorem dX13_steps_215 : decode cX13_steps 215 = .ok (.aload_n 0, 1) := by decide +kernel
theorem dX13_steps_216 : decode cX13_steps 216 = .ok (.invokevirtual 343, 3) := by decide +kernel
theorem dX13_steps_219 : decode cX13_steps 219 = .ok (.ireturn, 1) := by decide +kernel
theorem dX13_steps_220 : decode cX13_steps 220 = .ok (.aload_n 0, 1) := by decide +kernel
theorem dX13_steps_221 : decode cX13_steps 221 = .ok (.dup, 1) := by decide +kernel
theorem dX13_steps_222 : decode cX13_steps 222 = .ok (.getfield 304, 3) := by decide +kernel
theorem dX13_steps_225 : decode cX13_steps 225 = .ok (.iconst 1, 1) := by decide +kernel
theorem dX13_steps_226 : decode cX13_steps 226 = .ok (.isub, 1) := by decide +kernel
theorem dX13_steps_227 : decode cX13_steps 227 = .ok (.putfield 304, 3) := by decide +kernel
theorem dX13_steps_230 : decode cX13_steps 230 = .ok (.iconst 1, 1) := by decide +kernel
theorem dX13_steps_231 : decode cX13_steps 231 = .ok (.ireturn, 1) := by decide +kernel
theorem dX13_steps_232 : decode cX13_steps 232 = .ok (.aload_n 0, 1) := by decide +kernel
theorem dX13_steps_233 : decode cX13_steps 233 = .ok (.getfield 26, 3) := by decide +kernel
theorem dX13_steps_236 : decode cX13_steps 236 = .ok (.aload_n 0, 1) := by decide +kernel
theorem dX13_steps_237 : decode cX13_steps 237 = .ok (.getfield 346, 3) := by decide +kernel
theorem dX13_steps_240 : decode cX13_steps 240 = .ok (.aload_n 0, 1) := by decide +kernel
theorem dX13_steps_241 : decode cX13_steps 241 = .ok (.getfield 298, 3) := by decide +kernel
theorem dX13_steps_244 : decode cX13_steps 244 = .ok (.iastore, 1) := by decide +kernel
theorem dX13_steps_245 : decode cX13_steps 245 = .ok (.iconst 1, 1) := by decide +kernel
theorem dX13_steps_246 : decode cX13_steps 246 = .ok (.ireturn, 1) := by decide +kernel
set_option maxRecDepth 20000 in
theorem ggX13_both_X13_push : GoodIn wsX13_both wsX13_push := goodIn_r _ [5, 6, 7, 8, 9, 10, 11, 12, 13, 14, 15, 16, 17, 18, 19, 20, 21, 22, 23, 24, 25, 26, 27, 28, 29, 30, 31, 32, 33, 34, 35, 36, 37, 38, 39, 40, 41, 42, 43, 44, 45, 46, 47, 48, 49, 50, 51, 52, 53, 54, 55, 56, 57, 58, 59, 60, 61, 62, 63, 64, 65, 66, 67, 68, 69, 70, 71, 72, 73, 74, 75, 76, 77, 78, 79, 80, 81, 82, 83, 84, 85, 86, 87, 88, 89, 90, 91, 92, 93, 94, 95, 96, 97, 98, 99, 100, 101, 102, 103, 104, 105, 106, 107, 108, 109, 110, 111] (by decide +kernel) (by decide +kernel)
set_option maxRecDepth 20000 in
theorem gX13_both_X13_push : GoodIn wsX13_both (wsV RX13 307 RX13 yX13_push wsX13_push) := goodIn_app (goodIn_of _ (by decide +kernel)) ggX13_both_X13_push
theorem dX13_both_0 : decode cX13_both 0 = .ok (.aload_n 0, 1) := by decide +kernel
theorem dX13_both_1 : decode cX13_both 1 = .ok (.iload_n 1, 1) := by decide +kernel
theorem dX13_both_2 : decode cX13_both 2 = .ok (.invokevirtual 307, 3) := by decide +kernel
theorem dX13_both_5 : decode cX13_both 5 = .ok (.aload_n 0, 1) := by decide +kernel
theorem dX13_both_6 : decode cX13_both 6 = .ok (.iload_n 2, 1) := by decide +kernel
theorem dX13_both_7 : decode cX13_both 7 = .ok (.invokevirtual 307, 3) := by decide +kernel
theorem dX13_both_10 : decode cX13_both 10 = .ok (.iconst 1, 1) := by decide +kernel
theorem dX13_both_11 : decode cX13_both 11 = .ok (.ireturn, 1) := by decide +kernel
set_option maxRecDepth 20000 in
theorem ggX13_more_X13_isSign : GoodIn wsX13_more wsX13_isSign := goodIn_r _ [5, 6, 7, 82, 83, 84, 85, 86, 87, 88, 89, 90, 91, 92, 93, 94, 95, 96, 97, 98, 99, 100, 101, 102, 103, 104, 105, 106, 107, 108, 109, 110, 111, 112, 113, 114, 115, 116, 117, 118, 119, 120, 121, 122, 123, 124, 125, 126, 127, 128, 129, 130, 131, 132, 133, 134, 135, 136, 137, 138, 139, 140, 141, 142, 143, 144, 145, 146, 147, 148, 149, 150, 151, 152, 153, 154, 155, 156, 157, 158, 159, 160, 161, 162, 163, 164, 165, 166, 167, 168, 169, 170, 171, 172, 173, 174, 175, 176, 177, 178, 179, 180, 181, 182, 183, 184, 185] (by decide +kernel) (by decide +kernel)
set_option maxRecDepth 20000 in
theorem gX13_more_X13_isSign : GoodIn wsX13_more (wsV RX13 315 RX13 yX13_isSign wsX13_isSign) := goodIn_app (goodIn_of _ (by decide +kernel)) ggX13_more_X13_isSign
set_option maxRecDepth 20000 in
theorem ggX13_more_X13_next : GoodIn wsX13_more wsX13_next := goodIn_r _ [11, 12, 13, 14, 15, 7, 6, 16, 17, 18, 4, 19, 20, 21, 22, 23, 24, 25, 26, 27, 28, 29, 30, 31, 32, 33, 34, 35, 36, 37, 38, 39, 40, 41, 42, 43, 44, 45, 46, 47, 48, 49, 50, 51, 52, 53, 54, 55, 56, 57, 58, 59, 60, 61, 62, 63, 64, 65, 66, 67, 68, 69, 70, 71, 72, 73, 74, 75, 82, 83, 84, 85, 86, 87, 88, 89, 90, 91, 92, 93, 94, 95, 96, 97, 98, 99, 100, 101, 102, 103, 104, 105, 106, 107, 108, 109, 110, 111, 112, 113, 114, 115, 116, 117, 118, 119, 120, 121, 122, 123, 124, 125, 126, 127, 128, 129, 130, 131, 132, 133, 134, 135, 136, 137, 138, 139, 140, 141, 142, 143, 144, 145, 146, 147, 148, 149, 150, 151, 152, 153, 154, 155, 156, 157, 158, 159, 160, 161, 162, 163, 164, 165, 166, 167, 168, 169, 170, 171, 172, 173, 174, 175, 176, 177, 178, 179, 180, 181, 182, 183, 184, 185] (by decide +kernel) (by decide +kernel)
set_option maxRecDepth 20000 in
theorem gX13_more_X13_next : GoodIn wsX13_more (wsV RX13 301 RX13 yX13_next wsX13_next) := goodIn_app (goodIn_of _ (by decide +kernel)) ggX13_more_X13_next
set_option maxRecDepth 20000 in
theorem ggX13_more_X13_push : GoodIn wsX13_more wsX13_push := goodIn_r _ [79, 80, 81, 82, 83, 84, 85, 86, 87, 88, 89, 90, 91, 92, 93, 94, 95, 96, 97, 98, 99, 100, 101, 102, 103, 104, 105, 106, 107, 108, 109, 110, 111, 112, 113, 114, 115, 116, 117, 118, 119, 120, 121, 122, 123, 124, 125, 126, 127, 128, 129, 130, 131, 132, 133, 134, 135, 136, 137, 138, 139, 140, 141, 142, 143, 144, 145, 146, 147, 148, 149, 150, 151, 152, 153, 154, 155, 156, 157, 158, 159, 160, 161, 162, 163, 164, 165, 166, 167, 168, 169, 170, 171, 172, 173, 174, 175, 176, 177, 178, 179, 180, 181, 182, 183, 184, 185] (by decide +kernel) (by decide +kernel)
set_option maxRecDepth 20000 in
theorem gX13_more_X13_push : GoodIn wsX13_more (wsV RX13 307 RX13 yX13_push wsX13_push) := goodIn_app (goodIn_of _ (by decide +kernel)) ggX13_more_X13_push
theorem dX13_more_0 : decode cX13_more 0 = .ok (.aload_n 0, 1) := by decide +kernel
theorem dX13_more_1 : decode cX13_more 1 = .ok (.iload_n 1, 1) := by decide +kernel
theorem dX13_more_2 : decode cX13_more 2 = .ok (.invokevirtual 315, 3) := by decide +kernel
theorem dX13_more_5 : decode cX13_more 5 = .ok (.istore 7, 2) := by decide +kernel
theorem dX13_more_7 : decode cX13_more 7 = .ok (.iload 7, 2) := by decide +kernel
theorem dX13_more_9 : decode cX13_more 9 = .ok (.ifCond .ne 13, 3) := by decide +kernel
theorem dX13_more_12 : decode cX13_more 12 = .ok (.aload_n 0, 1) := by decide +kernel
theorem dX13_more_13 : decode cX13_more 13 = .ok (.iload_n 3, 1) := by decide +kernel
theorem dX13_more_14 : decode cX13_more 14 = .ok (.invokevirtual 315, 3) := by decide +kernel
theorem dX13_more_17 : decode cX13_more 17 = .ok (.ifCond .ne 5, 3) := by decide +kernel
theorem dX13_more_20 : decode cX13_more 20 = .ok (.iconst 1, 1) := by decide +kernel
theorem dX13_more_21 : decode cX13_more 21 = .ok (.ireturn, 1) := by decide +kernel
theorem dX13_more_22 : decode cX13_more 22 = .ok (.aload_n 0, 1) := by decide +kernel
theorem dX13_more_23 : decode cX13_more 23 = .ok (.invokevirtual 301, 3) := by decide +kernel
theorem dX13_more_26 : decode cX13_more 26 = .ok (.aload_n 0, 1) := by decide +kernel
theorem dX13_more_27 : decode cX13_more 27 = .ok (.iload 5, 2) := by decide +kernel
theorem dX13_more_29 : decode cX13_more 29 = .ok (.invokevirtual 307, 3) := by decide +kernel
theorem dX13_more_32 : decode cX13_more 32 = .ok (.aload_n 0, 1) := by decide +kernel
theorem dX13_more_33 : decode cX13_more 33 = .ok (.sipush 1000, 3) := by decide +kernel
theorem dX13_more_36 : decode cX13_more 36 = .ok (.iload 7, 2) := by decide +kernel
theorem dX13_more_38 : decode cX13_more 38 = .ok (.ifCond .eq 7, 3) := by decide +kernel
theorem dX13_more_41 : decode cX13_more 41 = .ok (.iload_n 2, 1) := by decide +kernel
theorem dX13_more_42 : decode cX13_more 42 = .ok (.goto 5, 3) := by decide +kernel
theorem dX13_more_45 : decode cX13_more 45 = .ok (.iload 4, 2) := by decide +kernel
theorem dX13_more_47 : decode cX13_more 47 = .ok (.iadd, 1) := by decide +kernel
theorem dX13_more_48 : decode cX13_more 48 = .ok (.invokevirtual 307, 3) := by decide +kernel
theorem dX13_more_51 : decode cX13_more 51 = .ok (.aload_n 0, 1) := by decide +kernel
theorem dX13_more_52 : decode cX13_more 52 = .ok (.iload 6, 2) := by decide +kernel
theorem dX13_more_54 : decode cX13_more 54 = .ok (.invokevirtual 307, 3) := by decide +kernel
theorem dX13_more_57 : decode cX13_more 57 = .ok (.iconst 1, 1) := by decide +kernel
theorem dX13_more_58 : decode cX13_more 58 = .ok (.ireturn, 1) := by decide +kernel
set_option maxRecDepth 20000 in
theorem ggX13_moreWords_X13_isWord : GoodIn wsX13_moreWords wsX13_isWord := goodIn_r _ [5, 6, 7, 82, 83, 84, 85, 86, 87, 88, 89, 90, 91, 92, 93, 94, 95, 96, 97, 98, 99, 100, 101, 102, 103, 104, 105, 106, 107, 108, 109, 110, 111, 112, 113, 114, 115, 116, 117, 118, 119, 120, 121, 122, 123, 124, 125, 126, 127, 128, 129, 130, 131, 132, 133, 134, 135, 136, 137, 138, 139, 140, 141, 142, 143, 144, 145, 146, 147, 148, 149, 150, 151, 152, 153, 154, 155, 156, 157, 158, 159, 160, 161, 162, 163, 164, 165, 166, 167, 168, 169, 170, 171, 172, 173, 174, 175, 176, 177, 178, 179, 180, 181, 182, 183, 184, 185] (by decide +kernel) (by decide +kernel)
set_option maxRecDepth 20000 in
theorem gX13_moreWords_X13_isWord : GoodIn wsX13_moreWords (wsV RX13 349 RX13 yX13_isWord wsX13_isWord) := goodIn_app (goodIn_of _ (by decide +kernel)) ggX13_moreWords_X13_isWord
set_option maxRecDepth 20000 in
theorem ggX13_moreWords_X13_next : GoodIn wsX13_moreWords wsX13_next := goodIn_r _ [11, 12, 13, 14, 15, 7, 6, 16, 17, 18, 4, 19, 20, 21, 22, 23, 24, 25, 26, 27, 28, 29, 30, 31, 32, 33, 34, 35, 36, 37, 38, 39, 40, 41, 42, 43, 44, 45, 46, 47, 48, 49, 50, 51, 52, 53, 54, 55, 56, 57, 58, 59, 60, 61, 62, 63, 64, 65, 66, 67, 68, 69, 70, 71, 72, 73, 74, 75, 82, 83, 84, 85, 86, 87, 88, 89, 90, 91, 92, 93, 94, 95, 96, 97, 98, 99, 100, 101, 102, 103, 104, 105, 106, 107, 108, 109, 110, 111, 112, 113, 114, 115, 116, 117, 118, 119, 120, 121, 122, 123, 124, 125, 126, 127, 128, 129, 130, 131, 132, 133, 134, 135, 136, 137, 138, 139, 140, 141, 142, 143, 144, 145, 146, 147, 148, 149, 150, 151, 152, 153, 154, 155, 156, 157, 158, 159, 160, 161, 162, 163, 164, 165, 166, 167, 168, 169, 170, 171, 172, 173, 174, 175, 176, 177, 178, 179, 180, 181, 182, 183, 184, 185] (by decide +kernel) (by decide +kernel)
set_option maxRecDepth 20000 in
theorem gX13_moreWords_X13_next : GoodIn wsX13_moreWords (wsV RX13 301 RX13 yX13_next wsX13_next) := goodIn_app (goodIn_of _ (by decide +kernel)) ggX13_moreWords_X13_next
set_option maxRecDepth 20000 in
theorem ggX13_moreWords_X13_push : GoodIn wsX13_moreWords wsX13_push := goodIn_r _ [79, 80, 81, 82, 83, 84, 85, 86, 87, 88, 89, 90, 91, 92, 93, 94, 95, 96, 97, 98, 99, 100, 101, 102, 103, 104, 105, 106, 107, 108, 109, 110, 111, 112, 113, 114, 115, 116, 117, 118, 119, 120, 121, 122, 123, 124, 125, 126, 127, 128, 129, 130, 131, 132, 133, 134, 135, 136, 137, 138, 139, 140, 141, 142, 143, 144, 145, 146, 147, 148, 149, 150, 151, 152, 153, 154, 155, 156, 157, 158, 159, 160, 161, 162, 163, 164, 165, 166, 167, 168, 169, 170, 171, 172, 173, 174, 175, 176, 177, 178, 179, 180, 181, 182, 183, 184, 185] (by decide +kernel) (by decide +kernel)
set_option maxRecDepth 20000 in
theorem gX13_moreWords_X13_push : GoodIn wsX13_moreWords (wsV RX13 307 RX13 yX13_push wsX13_push) := goodIn_app (goodIn_of _ (by decide +kernel)) ggX13_moreWords_X13_push
theorem dX13_moreWords_0 : decode cX13_moreWords 0 = .ok (.aload_n 0, 1) := by decide +kernel
theorem dX13_moreWords_1 : decode cX13_moreWords 1 = .ok (.iload_n 1, 1) := by decide +kernel
theorem dX13_moreWords_2 : decode cX13_moreWords 2 = .ok (.invokevirtual 349, 3) := by decide +kernel
theorem dX13_moreWords_5 : decode cX13_moreWords 5 = .ok (.ifCond .ne 5, 3) := by decide +kernel
theorem dX13_moreWords_8 : decode cX13_moreWords 8 = .ok (.iconst 1, 1) := by decide +kernel
theorem dX13_moreWords_9 : decode cX13_moreWords 9 = .ok (.ireturn, 1) := by decide +kernel
theorem dX13_moreWords_10 : decode cX13_moreWords 10 = .ok (.aload_n 0, 1) := by decide +kernel
theorem dX13_moreWords_11 : decode cX13_moreWords 11 = .ok (.invokevirtual 301, 3) := by decide +kernel
theorem dX13_moreWords_14 : decode cX13_moreWords 14 = .ok (.aload_n 0, 1) := by decide +kernel
theorem dX13_moreWords_15 : decode cX13_moreWords 15 = .ok (.iload_n 3, 1) := by decide +kernel
theorem dX13_moreWords_16 : decode cX13_moreWords 16 = .ok (.invokevirtual 307, 3) := by decide +kernel
theorem dX13_moreWords_19 : decode cX13_moreWords 19 = .ok (.aload_n 0, 1) := by decide +kernel
theorem dX13_moreWords_20 : decode cX13_moreWords 20 = .ok (.sipush 1000, 3) := by decide +kernel
theorem dX13_moreWords_23 : decode cX13_moreWords 23 = .ok (.iload_n 2, 1) := by decide +kernel
theorem dX13_moreWords_24 : decode cX13_moreWords 24 = .ok (.iadd, 1) := by decide +kernel
theorem dX13_moreWords_25 : decode cX13_moreWords 25 = .ok (.invokevirtual 307, 3) := by decide +kernel
theorem dX13_moreWords_28 : decode cX13_moreWords 28 = .ok (.aload_n 0, 1) := by decide +kernel
theorem dX13_moreWords_29 : decode cX13_moreWords 29 = .ok (.iload 4, 2) := by decide +kernel
theorem dX13_moreWords_31 : decode cX13_moreWords 31 = .ok (.invokevirtual 307, 3) := by decide +kernel
theorem dX13_moreWords_34 : decode cX13_moreWords 34 = .ok (.iconst 1, 1) := by decide +kernel
theorem dX13_moreWords_35 : decode cX13_moreWords 35 = .ok (.ireturn, 1) := by decide +kernel
set_option maxRecDepth 20000 in
theorem ggX13_clauses_X13_in : GoodIn wsX13_clauses wsX13_in := goodIn_r _ [6] (by decide +kernel) (by decide +kernel)
set_option maxRecDepth 20000 in
theorem gX13_clauses_X13_in : GoodIn wsX13_clauses (va_wsS RX13 256 yX13_in wsX13_in) := goodIn_app (goodIn_of _ (by decide +kernel)) ggX13_clauses_X13_in
set_option maxRecDepth 20000 in
theorem ggX13_clauses_X13_push : GoodIn wsX13_clauses wsX13_push := goodIn_r _ [10, 11, 12, 114, 115, 116, 117, 118, 119, 120, 121, 122, 123, 124, 125, 126, 127, 128, 129, 130, 131, 132, 133, 134, 135, 136, 137, 138, 139, 140, 141, 142, 143, 144, 145, 146, 147, 148, 149, 150, 151, 152, 153, 154, 155, 156, 157, 158, 159, 160, 161, 162, 163, 164, 165, 166, 167, 168, 169, 170, 171, 172, 173, 174, 175, 176, 177, 178, 179, 180, 181, 182, 183, 184, 185, 186, 187, 188, 189, 190, 191, 192, 193, 194, 195, 196, 197, 198, 199, 200, 201, 202, 203, 204, 205, 206, 207, 208, 209, 210, 211, 212, 213, 214, 215, 216, 217] (by decide +kernel) (by decide +kernel)
set_option maxRecDepth 20000 in
theorem gX13_clauses_X13_push : GoodIn wsX13_clauses (wsV RX13 307 RX13 yX13_push wsX13_push) := goodIn_app (goodIn_of _ (by decide +kernel)) ggX13_clauses_X13_push
set_option maxRecDepth 20000 in
theorem ggX13_clauses_X13_skip : GoodIn wsX13_clauses wsX13_skip := goodIn_r _ [16, 1, 17, 18, 19, 20, 21, 22, 23, 24, 5, 25, 26, 27, 2, 28, 29, 30, 31, 32, 33, 34, 35, 36, 37, 38, 39, 40, 41, 42, 43, 44, 45, 46, 47, 48, 49, 50, 51, 52, 53, 54, 55, 56, 57, 58, 59, 60, 61, 62, 63, 64, 65, 66, 67, 68, 69, 70, 71, 72, 73, 74, 75, 76, 77, 78, 79, 80, 81, 82, 83, 84, 85, 86, 87, 88, 89, 90, 91, 114, 115, 116, 117, 118, 119, 120, 121, 122, 123, 124, 125, 126, 127, 128, 129, 130, 131, 132, 133, 134, 135, 136, 137, 138, 139, 140, 141, 142, 143, 144, 145, 146, 147, 148, 149, 150, 151, 152, 153, 154, 155, 156, 157, 158, 159, 160, 161, 162, 163, 164, 165, 166, 167, 168, 169, 170, 171, 172, 173, 174, 175, 176, 177, 178, 179, 180, 181, 182, 183, 184, 185, 186, 187, 188, 189, 190, 191, 192, 193, 194, 195, 196, 197, 198, 199, 200, 201, 202, 203, 204, 205, 206, 207, 208, 209, 210, 211, 212, 213, 214, 215, 216, 217] (by decide +kernel) (by decide +kernel)
set_option maxRecDepth 20000 in
theorem gX13_clauses_X13_skip : GoodIn wsX13_clauses (wsV RX13 352 RX13 yX13_skip wsX13_skip) := goodIn_app (goodIn_of _ (by decide +kernel)) ggX13_clauses_X13_skip
set_option maxRecDepth 20000 in
theorem ggX13_clauses_X13_choice : GoodIn wsX13_clauses wsX13_choice := goodIn_r _ [95, 96, 97, 98, 22, 23, 24, 5, 25, 17, 26, 27, 18, 2, 1, 28, 29, 30, 31, 32, 33, 34, 35, 36, 37, 38, 39, 40, 41, 42, 43, 44, 45, 46, 47, 48, 49, 50, 51, 52, 53, 54, 55, 56, 57, 58, 59, 60, 61, 62, 63, 64, 65, 66, 67, 68, 69, 70, 71, 72, 73, 74, 75, 76, 77, 78, 79, 80, 81, 82, 83, 84, 85, 86, 87, 99, 100, 101, 102, 103, 104, 105, 106, 107, 108, 88, 89, 90, 91, 114, 115, 116, 117, 118, 119, 120, 121, 122, 123, 124, 125, 126, 127, 128, 129, 130, 131, 132, 133, 134, 135, 136, 137, 138, 139, 140, 141, 142, 143, 144, 145, 146, 147, 148, 149, 150, 151, 152, 153, 154, 155, 156, 157, 158, 159, 160, 161, 162, 163, 164, 165, 166, 167, 168, 169, 170, 171, 172, 173, 174, 175, 176, 177, 178, 179, 180, 181, 182, 183, 184, 185, 186, 187, 188, 189, 190, 191, 192, 193, 194, 195, 196, 197, 198, 199, 200, 201, 202, 203, 204, 205, 206, 207, 208, 209, 210, 211, 212, 213, 214, 215, 216, 217] (by decide +kernel) (by decide +kernel)
set_option maxRecDepth 20000 in
theorem gX13_clauses_X13_choice : GoodIn wsX13_clauses (wsV RX13 355 RX13 yX13_choice wsX13_choice) := goodIn_app (goodIn_of _ (by decide +kernel)) ggX13_clauses_X13_choice
set_option maxRecDepth 20000 in
theorem ggX13_clauses_X13_next : GoodIn wsX13_clauses wsX13_next := goodIn_r _ [25, 17, 26, 27, 18, 2, 1, 28, 29, 30, 5, 31, 32, 33, 34, 35, 36, 37, 38, 39, 40, 41, 42, 43, 44, 45, 46, 47, 48, 49, 50, 51, 52, 53, 54, 55, 56, 57, 58, 59, 60, 61, 62, 63, 64, 65, 66, 67, 68, 69, 70, 71, 72, 73, 74, 75, 76, 77, 78, 79, 80, 81, 82, 83, 84, 85, 86, 87, 114, 115, 116, 117, 118, 119, 120, 121, 122, 123, 124, 125, 126, 127, 128, 129, 130, 131, 132, 133, 134, 135, 136, 137, 138, 139, 140, 141, 142, 143, 144, 145, 146, 147, 148, 149, 150, 151, 152, 153, 154, 155, 156, 157, 158, 159, 160, 161, 162, 163, 164, 165, 166, 167, 168, 169, 170, 171, 172, 173, 174, 175, 176, 177, 178, 179, 180, 181, 182, 183, 184, 185, 186, 187, 188, 189, 190, 191, 192, 193, 194, 195, 196, 197, 198, 199, 200, 201, 202, 203, 204, 205, 206, 207, 208, 209, 210, 211, 212, 213, 214, 215, 216, 217] (by decide +kernel) (by decide +kernel)
set_option maxRecDepth 20000 in
theorem gX13_clauses_X13_next : GoodIn wsX13_clauses (wsV RX13 301 RX13 yX13_next wsX13_next) := goodIn_app (goodIn_of _ (by decide +kernel)) ggX13_clauses_X13_next
set_option maxRecDepth 20000 in
theorem ggX13_clauses_X13_begins : GoodIn wsX13_clauses wsX13_begins := goodIn_r _ [112, 96, 113, 97, 7, 8, 9, 5, 10, 11, 12, 88, 89, 90, 91, 22, 23, 24, 25, 17, 26, 27, 18, 2, 1, 28, 29, 30, 31, 32, 33, 34, 35, 36, 37, 38, 39, 40, 41, 42, 43, 44, 45, 46, 47, 48, 49, 50, 51, 52, 53, 54, 55, 56, 57, 58, 59, 60, 61, 62, 63, 64, 65, 66, 67, 68, 69, 70, 71, 72, 73, 74, 75, 76, 77, 78, 79, 80, 81, 82, 83, 84, 85, 86, 87, 114, 115, 116, 117, 118, 119, 120, 121, 122, 123, 124, 125, 126, 127, 128, 129, 130, 131, 132, 133, 134, 135, 136, 137, 138, 139, 140, 141, 142, 143, 144, 145, 146, 147, 148, 149, 150, 151, 152, 153, 154, 155, 156, 157, 158, 159, 160, 161, 162, 163, 164, 165, 166, 167, 168, 169, 170, 171, 172, 173, 174, 175, 176, 177, 178, 179, 180, 181, 182, 183, 184, 185, 186, 187, 188, 189, 190, 191, 192, 193, 194, 195, 196, 197, 198, 199, 200, 201, 202, 203, 204, 205, 206, 207, 208, 209, 210, 211, 212, 213, 214, 215, 216, 217] (by decide +kernel) (by decide +kernel)
set_option maxRecDepth 20000 in
theorem gX13_clauses_X13_begins : GoodIn wsX13_clauses (wsV RX13 358 RX13 yX13_begins wsX13_begins) := goodIn_app (goodIn_of _ (by decide +kernel)) ggX13_clauses_X13_begins
theorem dX13_clauses_0 : decode cX13_clauses 0 = .ok (.aload_n 0, 1) := by decide +kernel
theorem dX13_clauses_1 : decode cX13_clauses 1 = .ok (.getfield 281, 3) := by decide +kernel
theorem dX13_clauses_4 : decode cX13_clauses 4 = .ok (.ifCond .ne 5, 3) := by decide +kernel
theorem dX13_clauses_7 : decode cX13_clauses 7 = .ok (.iconst 1, 1) := by decide +kernel
theorem dX13_clauses_8 : decode cX13_clauses 8 = .ok (.ireturn, 1) := by decide +kernel
theorem dX13_clauses_9 : decode cX13_clauses 9 = .ok (.aload_n 0, 1) := by decide +kernel
theorem dX13_clauses_10 : decode cX13_clauses 10 = .ok (.getfield 281, 3) := by decide +kernel
theorem dX13_clauses_13 : decode cX13_clauses 13 = .ok (.iconst 2, 1) := by decide +kernel
theorem dX13_clauses_14 : decode cX13_clauses 14 = .ok (.if_icmp .ne 16, 3) := by decide +kernel
theorem dX13_clauses_17 : decode cX13_clauses 17 = .ok (.aload_n 0, 1) := by decide +kernel
theorem dX13_clauses_18 : decode cX13_clauses 18 = .ok (.getfield 278, 3) := by decide +kernel
theorem dX13_clauses_21 : decode cX13_clauses 21 = .ok (.iconst 0, 1) := by decide +kernel
theorem dX13_clauses_22 : decode cX13_clauses 22 = .ok (.bipush 8, 2) := by decide +kernel
theorem dX13_clauses_24 : decode cX13_clauses 24 = .ok (.invokestatic 256, 3) := by decide +kernel
theorem dX13_clauses_27 : decode cX13_clauses 27 = .ok (.ifCond .ne 5, 3) := by decide +kernel
theorem dX13_clauses_30 : decode cX13_clauses 30 = .ok (.iconst 0, 1) := by decide +kernel
theorem dX13_clauses_31 : decode cX13_clauses 31 = .ok (.ireturn, 1) := by decide +kernel
theorem dX13_clauses_32 : decode cX13_clauses 32 = .ok (.aload_n 0, 1) := by decide +kernel
theorem dX13_clauses_33 : decode cX13_clauses 33 = .ok (.getfield 278, 3) := by decide +kernel
theorem dX13_clauses_36 : decode cX13_clauses 36 = .ok (.istore_n 1, 1) := by decide +kernel
theorem dX13_clauses_37 : decode cX13_clauses 37 = .ok (.aload_n 0, 1) := by decide +kernel
theorem dX13_clauses_38 : decode cX13_clauses 38 = .ok (.iconst 0, 1) := by decide +kernel
theorem dX13_clauses_39 : decode cX13_clauses 39 = .ok (.invokevirtual 307, 3) := by decide +kernel
theorem dX13_clauses_42 : decode cX13_clauses 42 = .ok (.aload_n 0, 1) := by decide +kernel
theorem dX13_clauses_43 : decode cX13_clauses 43 = .ok (.sipush 159, 3) := by decide +kernel
theorem dX13_clauses_46 : decode cX13_clauses 46 = .ok (.invokevirtual 307, 3) := by decide +kernel
theorem dX13_clauses_49 : decode cX13_clauses 49 = .ok (.iload_n 1, 1) := by decide +kernel
theorem dX13_clauses_50 : decode cX13_clauses 50 = .ok (.ifCond .ne 8, 3) := by decide +kernel
theorem dX13_clauses_53 : decode cX13_clauses 53 = .ok (.aload_n 0, 1) := by decide +kernel
theorem dX13_clauses_54 : decode cX13_clauses 54 = .ok (.invokevirtual 352, 3) := by decide +kernel
theorem dX13_clauses_57 : decode cX13_clauses 57 = .ok (.ireturn, 1) := by decide +kernel
theorem dX13_clauses_58 : decode cX13_clauses 58 = .ok (.iload_n 1, 1) := by decide +kernel
theorem dX13_clauses_59 : decode cX13_clauses 59 = .ok (.iconst 1, 1) := by decide +kernel
theorem dX13_clauses_60 : decode cX13_clauses 60 = .ok (.if_icmp .eq 8, 3) := by decide +kernel
theorem dX13_clauses_63 : decode cX13_clauses 63 = .ok (.iload_n 1, 1) := by decide +kernel
theorem dX13_clauses_64 : decode cX13_clauses 64 = .ok (.iconst 2, 1) := by decide +kernel
theorem dX13_clauses_65 : decode cX13_clauses 65 = .ok (.if_icmp .ne 9, 3) := by decide +kernel
theorem dX13_clauses_68 : decode cX13_clauses 68 = .ok (.aload_n 0, 1) := by decide +kernel
theorem dX13_clauses_69 : decode cX13_clauses 69 = .ok (.iload_n 1, 1) := by decide +kernel
theorem dX13_clauses_70 : decode cX13_clauses 70 = .ok (.invokevirtual 355, 3) := by decide +kernel
theorem dX13_clauses_73 : decode cX13_clauses 73 = .ok (.ireturn, 1) := by decide +kernel
theorem dX13_clauses_74 : decode cX13_clauses 74 = .ok (.iload_n 1, 1) := by decide +kernel
theorem dX13_clauses_75 : decode cX13_clauses 75 = .ok (.iconst 5, 1) := by decide +kernel
theorem dX13_clauses_76 : decode cX13_clauses 76 = .ok (.if_icmp .gt 52, 3) := by decide +kernel
theorem dX13_clauses_79 : decode cX13_clauses 79 = .ok (.aload_n 0, 1) := by decide +kernel
theorem dX13_clauses_80 : decode cX13_clauses 80 = .ok (.invokevirtual 301, 3) := by decide +kernel
theorem dX13_clauses_83 : decode cX13_clauses 83 = .ok (.aload_n 0, 1) := by decide +kernel
theorem dX13_clauses_84 : decode cX13_clauses 84 = .ok (.getfield 281, 3) := by decide +kernel
theorem dX13_clauses_87 : decode cX13_clauses 87 = .ok (.iconst 2, 1) := by decide +kernel
theorem dX13_clauses_88 : decode cX13_clauses 88 = .ok (.if_icmp .ne 17, 3) := by decide +kernel
theorem dX13_clauses_91 : decode cX13_clauses 91 = .ok (.aload_n 0, 1) := by decide +kernel
theorem dX13_clauses_92 : decode cX13_clauses 92 = .ok (.getfield 278, 3) := by decide +kernel
theorem dX13_clauses_95 : decode cX13_clauses 95 = .ok (.bipush 13, 2) := by decide +kernel
theorem dX13_clauses_97 : decode cX13_clauses 97 = .ok (.bipush 15, 2) := by decide +kernel
theorem dX13_clauses_99 : decode cX13_clauses 99 = .ok (.invokestatic 256, 3) := by decide +kernel
theorem dX13_clauses_102 : decode cX13_clauses 102 = .ok (.ifCond .ne 5, 3) := by decide +kernel
theorem dX13_clauses_105 : decode cX13_clauses 105 = .ok (.iconst 0, 1) := by decide +kernel
theorem dX13_clauses_106 : decode cX13_clauses 106 = .ok (.ireturn, 1) := by decide +kernel
theorem dX13_clauses_107 : decode cX13_clauses 107 = .ok (.aload_n 0, 1) := by decide +kernel
theorem dX13_clauses_108 : decode cX13_clauses 108 = .ok (.iconst 5, 1) := by decide +kernel
theorem dX13_clauses_109 : decode cX13_clauses 109 = .ok (.iconst 3, 1) := by decide +kernel
theorem dX13_clauses_110 : decode cX13_clauses 110 = .ok (.iload_n 1, 1) := by decide +kernel
theorem dX13_clauses_111 : decode cX13_clauses 111 = .ok (.iconst 3, 1) := by decide +kernel
theorem dX13_clauses_112 : decode cX13_clauses 112 = .ok (.isub, 1) := by decide +kernel
theorem dX13_clauses_113 : decode cX13_clauses 113 = .ok (.imul, 1) := by decide +kernel
theorem dX13_clauses_114 : decode cX13_clauses 114 = .ok (.iadd, 1) := by decide +kernel
theorem dX13_clauses_115 : decode cX13_clauses 115 = .ok (.aload_n 0, 1) := by decide +kernel
theorem dX13_clauses_116 : decode cX13_clauses 116 = .ok (.getfield 278, 3) := by decide +kernel
theorem dX13_clauses_119 : decode cX13_clauses 119 = .ok (.iadd, 1) := by decide +kernel
theorem dX13_clauses_120 : decode cX13_clauses 120 = .ok (.bipush 13, 2) := by decide +kernel
theorem dX13_clauses_122 : decode cX13_clauses 122 = .ok (.isub, 1) := by decide +kernel
theorem dX13_clauses_123 : decode cX13_clauses 123 = .ok (.iconst 1, 1) := by decide +kernel
theorem dX13_clauses_124 : decode cX13_clauses 124 = .ok (.invokevirtual 358, 3) := by decide +kernel
theorem dX13_clauses_127 : decode cX13_clauses 127 = .ok (.ireturn, 1) := by decide +kernel
theorem dX13_clauses_128 : decode cX13_clauses 128 = .ok (.aload_n 0, 1) := by decide +kernel
theorem dX13_clauses_129 : decode cX13_clauses 129 = .ok (.iload_n 1, 1) := by decide +kernel
theorem dX13_clauses_130 : decode cX13_clauses 130 = .ok (.bipush 6, 2) := by decide +kernel
theorem dX13_clauses_132 : decode cX13_clauses 132 = .ok (.if_icmp .ne 7, 3) := by decide +kernel
theorem dX13_clauses_135 : decode cX13_clauses 135 = .ok (.iconst 2, 1) := by decide +kernel
theorem dX13_clauses_136 : decode cX13_clauses 136 = .ok (.goto 14, 3) := by decide +kernel
theorem dX13_clauses_139 : decode cX13_clauses 139 = .ok (.iload_n 1, 1) := by decide +kernel
theorem dX13_clauses_140 : decode cX13_clauses 140 = .ok (.bipush 7, 2) := by decide +kernel
theorem dX13_clauses_142 : decode cX13_clauses 142 = .ok (.if_icmp .ne 7, 3) := by decide +kernel
theorem dX13_clauses_145 : decode cX13_clauses 145 = .ok (.iconst 3, 1) := by decide +kernel
theorem dX13_clauses_146 : decode cX13_clauses 146 = .ok (.goto 4, 3) := by decide +kernel
theorem dX13_clauses_149 : decode cX13_clauses 149 = .ok (.iconst 4, 1) := by decide +kernel
theorem dX13_clauses_150 : decode cX13_clauses 150 = .ok (.iload_n 1, 1) := by decide +kernel
theorem dX13_clauses_151 : decode cX13_clauses 151 = .ok (.bipush 8, 2) := by decide +kernel
theorem dX13_clauses_153 : decode cX13_clauses 153 = .ok (.if_icmp .ne 7, 3) := by decide +kernel
theorem dX13_clauses_156 : decode cX13_clauses 156 = .ok (.iconst 1, 1) := by decide +kernel
theorem dX13_clauses_157 : decode cX13_clauses 157 = .ok (.goto 5, 3) := by decide +kernel
theorem dX13_clauses_160 : decode cX13_clauses 160 = .ok (.bipush 6, 2) := by decide +kernel
theorem dX13_clauses_162 : decode cX13_clauses 162 = .ok (.invokevirtual 358, 3) := by decide +kernel
theorem dX13_clauses_165 : decode cX13_clauses 165 = .ok (.ireturn, 1) := by decide +kernel
set_option maxRecDepth 20000 in
theorem ggX13_begins_X13_push : GoodIn wsX13_begins wsX13_push := goodIn_r _ [8, 9, 10, 85, 86, 87, 88, 89, 90, 91, 92, 93, 94, 95, 96, 97, 98, 99, 100, 101, 102, 103, 104, 105, 106, 107, 108, 109, 110, 111, 112, 113, 114, 115, 116, 117, 118, 119, 120, 121, 122, 123, 124, 125, 126, 127, 128, 129, 130, 131, 132, 133, 134, 135, 136, 137, 138, 139, 140, 141, 142, 143, 144, 145, 146, 147, 148, 149, 150, 151, 152, 153, 154, 155, 156, 157, 158, 159, 160, 161, 162, 163, 164, 165, 166, 167, 168, 169, 170, 171, 172, 173, 174, 175, 176, 177, 178, 179, 180, 181, 182, 183, 184, 185, 186, 187, 188] (by decide +kernel) (by decide +kernel)
set_option maxRecDepth 20000 in
theorem gX13_begins_X13_push : GoodIn wsX13_begins (wsV RX13 307 RX13 yX13_push wsX13_push) := goodIn_app (goodIn_of _ (by decide +kernel)) ggX13_begins_X13_push
set_option maxRecDepth 20000 in
theorem ggX13_begins_X13_takes : GoodIn wsX13_begins wsX13_takes := goodIn_r _ [14, 15, 16, 17, 7, 18, 19, 20, 21, 22, 23, 24, 25, 26, 27, 28, 29, 30, 31, 32, 33, 34, 35, 36, 37, 38, 39, 40, 41, 42, 43, 44, 45, 46, 47, 48, 49, 50, 51, 52, 53, 54, 55, 56, 57, 58, 59, 60, 61, 62, 63, 64, 65, 66, 67, 68, 69, 70, 71, 72, 73, 74, 75, 76, 77, 78, 79, 80, 81, 82, 83, 84, 85, 86, 87, 88, 89, 90, 91, 92, 93, 94, 95, 96, 97, 98, 99, 100, 101, 102, 103, 104, 105, 106, 107, 108, 109, 110, 111, 112, 113, 114, 115, 116, 117, 118, 119, 120, 121, 122, 123, 124, 125, 126, 127, 128, 129, 130, 131, 132, 133, 134, 135, 136, 137, 138, 139, 140, 141, 142, 143, 144, 145, 146, 147, 148, 149, 150, 151, 152, 153, 154, 155, 156, 157, 158, 159, 160, 161, 162, 163, 164, 165, 166, 167, 168, 169, 170, 171, 172, 173, 174, 175, 176, 177, 178, 179, 180, 181, 182, 183, 184, 185, 186, 187, 188] (by decide +kernel) (by decide +kernel)
set_option maxRecDepth 20000 in
theorem gX13_begins_X13_takes : GoodIn wsX13_begins (wsV RX13 318 RX13 yX13_takes wsX13_takes) := goodIn_app (goodIn_of _ (by decide +kernel)) ggX13_begins_X13_takes
theorem dX13_begins_0 : decode cX13_begins 0 = .ok (.aload_n 0, 1) := by decide +kernel
theorem dX13_begins_1 : decode cX13_begins 1 = .ok (.getfield 23, 3) := by decide +kernel
theorem dX13_begins_4 : decode cX13_begins 4 = .ok (.iload_n 1, 1) := by decide +kernel
theorem dX13_begins_5 : decode cX13_begins 5 = .ok (.iaload, 1) := by decide +kernel
theorem dX13_begins_6 : decode cX13_begins 6 = .ok (.iconst (-1), 1) := by decide +kernel
theorem dX13_begins_7 : decode cX13_begins 7 = .ok (.if_icmp .eq 5, 3) := by decide +kernel
theorem dX13_begins_10 : decode cX13_begins 10 = .ok (.iconst 0, 1) := by decide +kernel
theorem dX13_begins_11 : decode cX13_begins 11 = .ok (.ireturn, 1) := by decide +kernel
theorem dX13_begins_12 : decode cX13_begins 12 = .ok (.aload_n 0, 1) := by decide +kernel
theorem dX13_begins_13 : decode cX13_begins 13 = .ok (.iload_n 1, 1) := by decide +kernel
theorem dX13_begins_14 : decode cX13_begins 14 = .ok (.putfield 346, 3) := by decide +kernel
theorem dX13_begins_17 : decode cX13_begins 17 = .ok (.aload_n 0, 1) := by decide +kernel
theorem dX13_begins_18 : decode cX13_begins 18 = .ok (.getfield 23, 3) := by decide +kernel
theorem dX13_begins_21 : decode cX13_begins 21 = .ok (.iload_n 1, 1) := by decide +kernel
theorem dX13_begins_22 : decode cX13_begins 22 = .ok (.aload_n 0, 1) := by decide +kernel
theorem dX13_begins_23 : decode cX13_begins 23 = .ok (.getfield 298, 3) := by decide +kernel
theorem dX13_begins_26 : decode cX13_begins 26 = .ok (.iastore, 1) := by decide +kernel
theorem dX13_begins_27 : decode cX13_begins 27 = .ok (.aload_n 0, 1) := by decide +kernel
theorem dX13_begins_28 : decode cX13_begins 28 = .ok (.bipush 13, 2) := by decide +kernel
theorem dX13_begins_30 : decode cX13_begins 30 = .ok (.invokevirtual 307, 3) := by decide +kernel
theorem dX13_begins_33 : decode cX13_begins 33 = .ok (.aload_n 0, 1) := by decide +kernel
theorem dX13_begins_34 : decode cX13_begins 34 = .ok (.iload_n 2, 1) := by decide +kernel
theorem dX13_begins_35 : decode cX13_begins 35 = .ok (.invokevirtual 307, 3) := by decide +kernel
theorem dX13_begins_38 : decode cX13_begins 38 = .ok (.aload_n 0, 1) := by decide +kernel
theorem dX13_begins_39 : decode cX13_begins 39 = .ok (.invokevirtual 318, 3) := by decide +kernel
theorem dX13_begins_42 : decode cX13_begins 42 = .ok (.ireturn, 1) := by decide +kernel
set_option maxRecDepth 20000 in
theorem ggX13_skip_X13_next : GoodIn wsX13_skip wsX13_next := goodIn_r _ [11, 2, 12, 13, 3, 14, 1, 15, 16, 17, 10, 18, 19, 20, 21, 22, 23, 24, 25, 26, 27, 28, 29, 30, 31, 32, 33, 34, 35, 36, 37, 38, 39, 40, 41, 42, 43, 44, 45, 46, 47, 48, 49, 50, 51, 52, 53, 54, 55, 56, 57, 58, 59, 60, 61, 62, 63, 64, 65, 66, 67, 68, 69, 70, 71, 72, 73, 74, 79, 80, 81, 82, 83, 84, 85, 86, 87, 88, 89, 90, 91, 92, 93, 94, 95, 96, 97, 98, 99, 100, 101, 102, 103, 104, 105, 106, 107, 108, 109, 110, 111, 112, 113, 114, 115, 116, 117, 118, 119, 120, 121, 122, 123, 124, 125, 126, 127, 128, 129, 130, 131, 132, 133, 134, 135, 136, 137, 138, 139, 140, 141, 142, 143, 144, 145, 146, 147, 148, 149, 150, 151, 152, 153, 154, 155, 156, 157, 158, 159, 160, 161, 162, 163, 164, 165, 166, 167, 168, 169, 170, 171, 172, 173, 174, 175, 176, 177, 178, 179, 180, 181, 182] (by decide +kernel) (by decide +kernel)
set_option maxRecDepth 20000 in
theorem gX13_skip_X13_next : GoodIn wsX13_skip (wsV RX13 301 RX13 yX13_next wsX13_next) := goodIn_app (goodIn_of _ (by decide +kernel)) ggX13_skip_X13_next
set_option maxRecDepth 20000 in
theorem ggX13_skip_X13_takes : GoodIn wsX13_skip wsX13_takes := goodIn_r _ [78, 7, 8, 9, 10, 11, 2, 12, 13, 3, 14, 1, 15, 16, 17, 18, 19, 20, 21, 22, 23, 24, 25, 26, 27, 28, 29, 30, 31, 32, 33, 34, 35, 36, 37, 38, 39, 40, 41, 42, 43, 44, 45, 46, 47, 48, 49, 50, 51, 52, 53, 54, 55, 56, 57, 58, 59, 60, 61, 62, 63, 64, 65, 66, 67, 68, 69, 70, 71, 72, 73, 74, 79, 80, 81, 82, 83, 84, 85, 86, 87, 88, 89, 90, 91, 92, 93, 94, 95, 96, 97, 98, 99, 100, 101, 102, 103, 104, 105, 106, 107, 108, 109, 110, 111, 112, 113, 114, 115, 116, 117, 118, 119, 120, 121, 122, 123, 124, 125, 126, 127, 128, 129, 130, 131, 132, 133, 134, 135, 136, 137, 138, 139, 140, 141, 142, 143, 144, 145, 146, 147, 148, 149, 150, 151, 152, 153, 154, 155, 156, 157, 158, 159, 160, 161, 162, 163, 164, 165, 166, 167, 168, 169, 170, 171, 172, 173, 174, 175, 176, 177, 178, 179, 180, 181, 182] (by decide +kernel) (by decide +kernel)
set_option maxRecDepth 20000 in
theorem gX13_skip_X13_takes : GoodIn wsX13_skip (wsV RX13 318 RX13 yX13_takes wsX13_takes) := goodIn_app (goodIn_of _ (by decide +kernel)) ggX13_skip_X13_takes
theorem dX13_skip_0 : decode cX13_skip 0 = .ok (.aload_n 0, 1) := by decide +kernel
theorem dX13_skip_1 : decode cX13_skip 1 = .ok (.invokevirtual 301, 3) := by decide +kernel
theorem dX13_skip_4 : decode cX13_skip 4 = .ok (.aload_n 0, 1) := by decide +kernel
theorem dX13_skip_5 : decode cX13_skip 5 = .ok (.getfield 281, 3) := by decide +kernel
theorem dX13_skip_8 : decode cX13_skip 8 = .ok (.iconst 2, 1) := by decide +kernel
theorem dX13_skip_9 : decode cX13_skip 9 = .ok (.if_icmp .ne 25, 3) := by decide +kernel
theorem dX13_skip_12 : decode cX13_skip 12 = .ok (.aload_n 0, 1) := by decide +kernel
theorem dX13_skip_13 : decode cX13_skip 13 = .ok (.getfield 272, 3) := by decide +kernel
theorem dX13_skip_16 : decode cX13_skip 16 = .ok (.aload_n 0, 1) := by decide +kernel
theorem dX13_skip_17 : decode cX13_skip 17 = .ok (.getfield 275, 3) := by decide +kernel
theorem dX13_skip_20 : decode cX13_skip 20 = .ok (.isub, 1) := by decide +kernel
theorem dX13_skip_21 : decode cX13_skip 21 = .ok (.bipush 8, 2) := by decide +kernel
theorem dX13_skip_23 : decode cX13_skip 23 = .ok (.if_icmp .gt 11, 3) := by decide +kernel
theorem dX13_skip_26 : decode cX13_skip 26 = .ok (.aload_n 0, 1) := by decide +kernel
theorem dX13_skip_27 : decode cX13_skip 27 = .ok (.getfield 361, 3) := by decide +kernel
theorem dX13_skip_30 : decode cX13_skip 30 = .ok (.iconst 4, 1) := by decide +kernel
theorem dX13_skip_31 : decode cX13_skip 31 = .ok (.if_icmp .ne 5, 3) := by decide +kernel
theorem dX13_skip_34 : decode cX13_skip 34 = .ok (.iconst 0, 1) := by decide +kernel
theorem dX13_skip_35 : decode cX13_skip 35 = .ok (.ireturn, 1) := by decide +kernel
theorem dX13_skip_36 : decode cX13_skip 36 = .ok (.aload_n 0, 1) := by decide +kernel
theorem dX13_skip_37 : decode cX13_skip 37 = .ok (.getfield 29, 3) := by decide +kernel
theorem dX13_skip_40 : decode cX13_skip 40 = .ok (.aload_n 0, 1) := by decide +kernel
theorem dX13_skip_41 : decode cX13_skip 41 = .ok (.getfield 361, 3) := by decide +kernel
theorem dX13_skip_44 : decode cX13_skip 44 = .ok (.aload_n 0, 1) := by decide +kernel
theorem dX13_skip_45 : decode cX13_skip 45 = .ok (.getfield 275, 3) := by decide +kernel
theorem dX13_skip_48 : decode cX13_skip 48 = .ok (.iastore, 1) := by decide +kernel
theorem dX13_skip_49 : decode cX13_skip 49 = .ok (.aload_n 0, 1) := by decide +kernel
theorem dX13_skip_50 : decode cX13_skip 50 = .ok (.getfield 32, 3) := by decide +kernel
theorem dX13_skip_53 : decode cX13_skip 53 = .ok (.aload_n 0, 1) := by decide +kernel
theorem dX13_skip_54 : decode cX13_skip 54 = .ok (.getfield 361, 3) := by decide +kernel
theorem dX13_skip_57 : decode cX13_skip 57 = .ok (.aload_n 0, 1) := by decide +kernel
theorem dX13_skip_58 : decode cX13_skip 58 = .ok (.getfield 272, 3) := by decide +kernel
theorem dX13_skip_61 : decode cX13_skip 61 = .ok (.aload_n 0, 1) := by decide +kernel
theorem dX13_skip_62 : decode cX13_skip 62 = .ok (.getfield 275, 3) := by decide +kernel
theorem dX13_skip_65 : decode cX13_skip 65 = .ok (.isub, 1) := by decide +kernel
theorem dX13_skip_66 : decode cX13_skip 66 = .ok (.iastore, 1) := by decide +kernel
theorem dX13_skip_67 : decode cX13_skip 67 = .ok (.aload_n 0, 1) := by decide +kernel
theorem dX13_skip_68 : decode cX13_skip 68 = .ok (.dup, 1) := by decide +kernel
theorem dX13_skip_69 : decode cX13_skip 69 = .ok (.getfield 361, 3) := by decide +kernel
theorem dX13_skip_72 : decode cX13_skip 72 = .ok (.iconst 1, 1) := by decide +kernel
theorem dX13_skip_73 : decode cX13_skip 73 = .ok (.iadd, 1) := by decide +kernel
theorem dX13_skip_74 : decode cX13_skip 74 = .ok (.putfield 361, 3) := by decide +kernel
theorem dX13_skip_77 : decode cX13_skip 77 = .ok (.aload_n 0, 1) := by decide +kernel
theorem dX13_skip_78 : decode cX13_skip 78 = .ok (.invokevirtual 318, 3) := by decide +kernel
theorem dX13_skip_81 : decode cX13_skip 81 = .ok (.ireturn, 1) := by decide +kernel
set_option maxRecDepth 20000 in
theorem ggX13_choice_X13_next : GoodIn wsX13_choice wsX13_next := goodIn_r _ [8, 9, 10, 11, 12, 13, 14, 15, 16, 17, 7, 18, 19, 20, 21, 22, 23, 24, 25, 26, 27, 28, 29, 30, 31, 32, 33, 34, 35, 36, 37, 38, 39, 40, 41, 42, 43, 44, 45, 46, 47, 48, 49, 50, 51, 52, 53, 54, 55, 56, 57, 58, 59, 60, 61, 62, 63, 64, 65, 66, 67, 68, 69, 70, 71, 72, 73, 74, 89, 90, 91, 92, 93, 94, 95, 96, 97, 98, 99, 100, 101, 102, 103, 104, 105, 106, 107, 108, 109, 110, 111, 112, 113, 114, 115, 116, 117, 118, 119, 120, 121, 122, 123, 124, 125, 126, 127, 128, 129, 130, 131, 132, 133, 134, 135, 136, 137, 138, 139, 140, 141, 142, 143, 144, 145, 146, 147, 148, 149, 150, 151, 152, 153, 154, 155, 156, 157, 158, 159, 160, 161, 162, 163, 164, 165, 166, 167, 168, 169, 170, 171, 172, 173, 174, 175, 176, 177, 178, 179, 180, 181, 182, 183, 184, 185, 186, 187, 188, 189, 190, 191, 192] (by decide +kernel) (by decide +kernel)
set_option maxRecDepth 20000 in
theorem gX13_choice_X13_next : GoodIn wsX13_choice (wsV RX13 301 RX13 yX13_next wsX13_next) := goodIn_app (goodIn_of _ (by decide +kernel)) ggX13_choice_X13_next
set_option maxRecDepth 20000 in
theorem ggX13_choice_X13_isWord : GoodIn wsX13_choice wsX13_isWord := goodIn_r _ [78, 14, 13, 89, 90, 91, 92, 93, 94, 95, 96, 97, 98, 99, 100, 101, 102, 103, 104, 105, 106, 107, 108, 109, 110, 111, 112, 113, 114, 115, 116, 117, 118, 119, 120, 121, 122, 123, 124, 125, 126, 127, 128, 129, 130, 131, 132, 133, 134, 135, 136, 137, 138, 139, 140, 141, 142, 143, 144, 145, 146, 147, 148, 149, 150, 151, 152, 153, 154, 155, 156, 157, 158, 159, 160, 161, 162, 163, 164, 165, 166, 167, 168, 169, 170, 171, 172, 173, 174, 175, 176, 177, 178, 179, 180, 181, 182, 183, 184, 185, 186, 187, 188, 189, 190, 191, 192] (by decide +kernel) (by decide +kernel)
set_option maxRecDepth 20000 in
theorem gX13_choice_X13_isWord : GoodIn wsX13_choice (wsV RX13 349 RX13 yX13_isWord wsX13_isWord) := goodIn_app (goodIn_of _ (by decide +kernel)) ggX13_choice_X13_isWord
set_option maxRecDepth 20000 in
theorem ggX13_choice_X13_emits : GoodIn wsX13_choice wsX13_emits := goodIn_r _ [82, 83, 2, 84, 89, 90, 91, 92, 93, 94, 95, 96, 97, 98, 99, 100, 101, 102, 103, 104, 105, 106, 107, 108, 109, 110, 111, 112, 113, 114, 115, 116, 117, 118, 119, 120, 121, 122, 123, 124, 125, 126, 127, 128, 129, 130, 131, 132, 133, 134, 135, 136, 137, 138, 139, 140, 141, 142, 143, 144, 145, 146, 147, 148, 149, 150, 151, 152, 153, 154, 155, 156, 157, 158, 159, 160, 161, 162, 163, 164, 165, 166, 167, 168, 169, 170, 171, 172, 173, 174, 175, 176, 177, 178, 179, 180, 181, 182, 183, 184, 185, 186, 187, 188, 189, 190, 191, 192] (by decide +kernel) (by decide +kernel)
set_option maxRecDepth 20000 in
theorem gX13_choice_X13_emits : GoodIn wsX13_choice (wsV RX13 311 RX13 yX13_emits wsX13_emits) := goodIn_app (goodIn_of _ (by decide +kernel)) ggX13_choice_X13_emits
set_option maxRecDepth 20000 in
theorem ggX13_choice_X13_takes : GoodIn wsX13_choice wsX13_takes := goodIn_r _ [88, 4, 5, 6, 7, 8, 9, 10, 11, 12, 13, 14, 15, 16, 17, 18, 19, 20, 21, 22, 23, 24, 25, 26, 27, 28, 29, 30, 31, 32, 33, 34, 35, 36, 37, 38, 39, 40, 41, 42, 43, 44, 45, 46, 47, 48, 49, 50, 51, 52, 53, 54, 55, 56, 57, 58, 59, 60, 61, 62, 63, 64, 65, 66, 67, 68, 69, 70, 71, 72, 73, 74, 89, 90, 91, 92, 93, 94, 95, 96, 97, 98, 99, 100, 101, 102, 103, 104, 105, 106, 107, 108, 109, 110, 111, 112, 113, 114, 115, 116, 117, 118, 119, 120, 121, 122, 123, 124, 125, 126, 127, 128, 129, 130, 131, 132, 133, 134, 135, 136, 137, 138, 139, 140, 141, 142, 143, 144, 145, 146, 147, 148, 149, 150, 151, 152, 153, 154, 155, 156, 157, 158, 159, 160, 161, 162, 163, 164, 165, 166, 167, 168, 169, 170, 171, 172, 173, 174, 175, 176, 177, 178, 179, 180, 181, 182, 183, 184, 185, 186, 187, 188, 189, 190, 191, 192] (by decide +kernel) (by decide +kernel)
set_option maxRecDepth 20000 in
theorem gX13_choice_X13_takes : GoodIn wsX13_choice (wsV RX13 318 RX13 yX13_takes wsX13_takes) := goodIn_app (goodIn_of _ (by decide +kernel)) ggX13_choice_X13_takes
theorem dX13_choice_0 : decode cX13_choice 0 = .ok (.iload_n 1, 1) := by decide +kernel
theorem dX13_choice_1 : decode cX13_choice 1 = .ok (.iconst 1, 1) := by decide +kernel
theorem dX13_choice_2 : decode cX13_choice 2 = .ok (.if_icmp .ne 7, 3) := by decide +kernel
theorem dX13_choice_5 : decode cX13_choice 5 = .ok (.iconst 0, 1) := by decide +kernel
theorem dX13_choice_6 : decode cX13_choice 6 = .ok (.goto 4, 3) := by decide +kernel
theorem dX13_choice_9 : decode cX13_choice 9 = .ok (.iconst 1, 1) := by decide +kernel
theorem dX13_choice_10 : decode cX13_choice 10 = .ok (.istore_n 2, 1) := by decide +kernel
theorem dX13_choice_11 : decode cX13_choice 11 = .ok (.aload_n 0, 1) := by decide +kernel
theorem dX13_choice_12 : decode cX13_choice 12 = .ok (.getfield 23, 3) := by decide +kernel
theorem dX13_choice_15 : decode cX13_choice 15 = .ok (.iload_n 2, 1) := by decide +kernel
theorem dX13_choice_16 : decode cX13_choice 16 = .ok (.iaload, 1) := by decide +kernel
theorem dX13_choice_17 : decode cX13_choice 17 = .ok (.iconst (-1), 1) := by decide +kernel
theorem dX13_choice_18 : decode cX13_choice 18 = .ok (.if_icmp .eq 5, 3) := by decide +kernel
theorem dX13_choice_21 : decode cX13_choice 21 = .ok (.iconst 0, 1) := by decide +kernel
theorem dX13_choice_22 : decode cX13_choice 22 = .ok (.ireturn, 1) := by decide +kernel
theorem dX13_choice_23 : decode cX13_choice 23 = .ok (.aload_n 0, 1) := by decide +kernel
theorem dX13_choice_24 : decode cX13_choice 24 = .ok (.invokevirtual 301, 3) := by decide +kernel
theorem dX13_choice_27 : decode cX13_choice 27 = .ok (.iload_n 1, 1) := by decide +kernel
theorem dX13_choice_28 : decode cX13_choice 28 = .ok (.iconst 1, 1) := by decide +kernel
theorem dX13_choice_29 : decode cX13_choice 29 = .ok (.if_icmp .ne 8, 3) := by decide +kernel
theorem dX13_choice_32 : decode cX13_choice 32 = .ok (.bipush 9, 2) := by decide +kernel
theorem dX13_choice_34 : decode cX13_choice 34 = .ok (.goto 5, 3) := by decide +kernel
theorem dX13_choice_37 : decode cX13_choice 37 = .ok (.bipush 11, 2) := by decide +kernel
theorem dX13_choice_39 : decode cX13_choice 39 = .ok (.istore_n 3, 1) := by decide +kernel
theorem dX13_choice_40 : decode cX13_choice 40 = .ok (.iload_n 1, 1) := by decide +kernel
theorem dX13_choice_41 : decode cX13_choice 41 = .ok (.iconst 1, 1) := by decide +kernel
theorem dX13_choice_42 : decode cX13_choice 42 = .ok (.if_icmp .ne 8, 3) := by decide +kernel
theorem dX13_choice_45 : decode cX13_choice 45 = .ok (.bipush 10, 2) := by decide +kernel
theorem dX13_choice_47 : decode cX13_choice 47 = .ok (.goto 5, 3) := by decide +kernel
theorem dX13_choice_50 : decode cX13_choice 50 = .ok (.bipush 12, 2) := by decide +kernel
theorem dX13_choice_52 : decode cX13_choice 52 = .ok (.istore 4, 2) := by decide +kernel
theorem dX13_choice_54 : decode cX13_choice 54 = .ok (.aload_n 0, 1) := by decide +kernel
theorem dX13_choice_55 : decode cX13_choice 55 = .ok (.iload_n 3, 1) := by decide +kernel
theorem dX13_choice_56 : decode cX13_choice 56 = .ok (.invokevirtual 349, 3) := by decide +kernel
theorem dX13_choice_59 : decode cX13_choice 59 = .ok (.ifCond .ne 14, 3) := by decide +kernel
theorem dX13_choice_62 : decode cX13_choice 62 = .ok (.aload_n 0, 1) := by decide +kernel
theorem dX13_choice_63 : decode cX13_choice 63 = .ok (.iload 4, 2) := by decide +kernel
theorem dX13_choice_65 : decode cX13_choice 65 = .ok (.invokevirtual 349, 3) := by decide +kernel
theorem dX13_choice_68 : decode cX13_choice 68 = .ok (.ifCond .ne 5, 3) := by decide +kernel
theorem dX13_choice_71 : decode cX13_choice 71 = .ok (.iconst 0, 1) := by decide +kernel
theorem dX13_choice_72 : decode cX13_choice 72 = .ok (.ireturn, 1) := by decide +kernel
theorem dX13_choice_73 : decode cX13_choice 73 = .ok (.aload_n 0, 1) := by decide +kernel
theorem dX13_choice_74 : decode cX13_choice 74 = .ok (.getfield 23, 3) := by decide +kernel
theorem dX13_choice_77 : decode cX13_choice 77 = .ok (.iload_n 2, 1) := by decide +kernel
theorem dX13_choice_78 : decode cX13_choice 78 = .ok (.aload_n 0, 1) := by decide +kernel
theorem dX13_choice_79 : decode cX13_choice 79 = .ok (.getfield 298, 3) := by decide +kernel
theorem dX13_choice_82 : decode cX13_choice 82 = .ok (.iastore, 1) := by decide +kernel
theorem dX13_choice_83 : decode cX13_choice 83 = .ok (.aload_n 0, 1) := by decide +kernel
theorem dX13_choice_84 : decode cX13_choice 84 = .ok (.iconst 0, 1) := by decide +kernel
theorem dX13_choice_85 : decode cX13_choice 85 = .ok (.aload_n 0, 1) := by decide +kernel
theorem dX13_choice_86 : decode cX13_choice 86 = .ok (.iload_n 3, 1) := by decide +kernel
theorem dX13_choice_87 : decode cX13_choice 87 = .ok (.invokevirtual 349, 3) := by decide +kernel
theorem dX13_choice_90 : decode cX13_choice 90 = .ok (.ifCond .eq 7, 3) := by decide +kernel
theorem dX13_choice_93 : decode cX13_choice 93 = .ok (.iconst 1, 1) := by decide +kernel
theorem dX13_choice_94 : decode cX13_choice 94 = .ok (.goto 4, 3) := by decide +kernel
theorem dX13_choice_97 : decode cX13_choice 97 = .ok (.iconst 0, 1) := by decide +kernel
theorem dX13_choice_98 : decode cX13_choice 98 = .ok (.invokevirtual 311, 3) := by decide +kernel
theorem dX13_choice_101 : decode cX13_choice 101 = .ok (.aload_n 0, 1) := by decide +kernel
theorem dX13_choice_102 : decode cX13_choice 102 = .ok (.getfield 26, 3) := by decide +kernel
theorem dX13_choice_105 : decode cX13_choice 105 = .ok (.iload_n 2, 1) := by decide +kernel
theorem dX13_choice_106 : decode cX13_choice 106 = .ok (.aload_n 0, 1) := by decide +kernel
theorem dX13_choice_107 : decode cX13_choice 107 = .ok (.getfield 298, 3) := by decide +kernel
theorem dX13_choice_110 : decode cX13_choice 110 = .ok (.iastore, 1) := by decide +kernel
theorem dX13_choice_111 : decode cX13_choice 111 = .ok (.aload_n 0, 1) := by decide +kernel
theorem dX13_choice_112 : decode cX13_choice 112 = .ok (.invokevirtual 318, 3) := by decide +kernel
theorem dX13_choice_115 : decode cX13_choice 115 = .ok (.ireturn, 1) := by decide +kernel
set_option maxRecDepth 20000 in
theorem ggX13_factor_X13_emits : GoodIn wsX13_factor wsX13_emits := goodIn_r _ [8, 9, 10, 11, 102, 103, 104, 105, 106, 107, 108, 109, 110, 111, 112, 113, 114, 115, 116, 117, 118, 119, 120, 121, 122, 123, 124, 125, 126, 127, 128, 129, 130, 131, 132, 133, 134, 135, 136, 137, 138, 139, 140, 141, 142, 143, 144, 145, 146, 147, 148, 149, 150, 151, 152, 153, 154, 155, 156, 157, 158, 159, 160, 161, 162, 163, 164, 165, 166, 167, 168, 169, 170, 171, 172, 173, 174, 175, 176, 177, 178, 179, 180, 181, 182, 183, 184, 185, 186, 187, 188, 189, 190, 191, 192, 193, 194, 195, 196, 197, 198, 199, 200, 201, 202, 203, 204, 205] (by decide +kernel) (by decide +kernel)
set_option maxRecDepth 20000 in
theorem gX13_factor_X13_emits : GoodIn wsX13_factor (wsV RX13 311 RX13 yX13_emits wsX13_emits) := goodIn_app (goodIn_of _ (by decide +kernel)) ggX13_factor_X13_emits
set_option maxRecDepth 20000 in
theorem ggX13_factor_X13_takes : GoodIn wsX13_factor wsX13_takes := goodIn_r _ [15, 16, 17, 18, 7, 19, 20, 21, 22, 23, 2, 1, 24, 25, 26, 27, 28, 29, 30, 31, 32, 33, 34, 35, 36, 37, 38, 39, 40, 41, 42, 43, 44, 45, 46, 47, 48, 49, 50, 51, 52, 53, 54, 55, 56, 57, 58, 59, 60, 61, 62, 63, 64, 65, 66, 67, 68, 69, 70, 71, 72, 73, 74, 75, 76, 77, 78, 79, 80, 81, 82, 83, 102, 103, 104, 105, 106, 107, 108, 109, 110, 111, 112, 113, 114, 115, 116, 117, 118, 119, 120, 121, 122, 123, 124, 125, 126, 127, 128, 129, 130, 131, 132, 133, 134, 135, 136, 137, 138, 139, 140, 141, 142, 143, 144, 145, 146, 147, 148, 149, 150, 151, 152, 153, 154, 155, 156, 157, 158, 159, 160, 161, 162, 163, 164, 165, 166, 167, 168, 169, 170, 171, 172, 173, 174, 175, 176, 177, 178, 179, 180, 181, 182, 183, 184, 185, 186, 187, 188, 189, 190, 191, 192, 193, 194, 195, 196, 197, 198, 199, 200, 201, 202, 203, 204, 205] (by decide +kernel) (by decide +kernel)
set_option maxRecDepth 20000 in
theorem gX13_factor_X13_takes : GoodIn wsX13_factor (wsV RX13 318 RX13 yX13_takes wsX13_takes) := goodIn_app (goodIn_of _ (by decide +kernel)) ggX13_factor_X13_takes
set_option maxRecDepth 20000 in
theorem ggX13_factor_X13_in : GoodIn wsX13_factor wsX13_in := goodIn_r _ [86] (by decide +kernel) (by decide +kernel)
set_option maxRecDepth 20000 in
theorem gX13_factor_X13_in : GoodIn wsX13_factor (va_wsS RX13 256 yX13_in wsX13_in) := goodIn_app (goodIn_of _ (by decide +kernel)) ggX13_factor_X13_in
set_option maxRecDepth 20000 in
theorem ggX13_factor_X13_isSign : GoodIn wsX13_factor wsX13_isSign := goodIn_r _ [90, 1, 2, 102, 103, 104, 105, 106, 107, 108, 109, 110, 111, 112, 113, 114, 115, 116, 117, 118, 119, 120, 121, 122, 123, 124, 125, 126, 127, 128, 129, 130, 131, 132, 133, 134, 135, 136, 137, 138, 139, 140, 141, 142, 143, 144, 145, 146, 147, 148, 149, 150, 151, 152, 153, 154, 155, 156, 157, 158, 159, 160, 161, 162, 163, 164, 165, 166, 167, 168, 169, 170, 171, 172, 173, 174, 175, 176, 177, 178, 179, 180, 181, 182, 183, 184, 185, 186, 187, 188, 189, 190, 191, 192, 193, 194, 195, 196, 197, 198, 199, 200, 201, 202, 203, 204, 205] (by decide +kernel) (by decide +kernel)
set_option maxRecDepth 20000 in
theorem gX13_factor_X13_isSign : GoodIn wsX13_factor (wsV RX13 315 RX13 yX13_isSign wsX13_isSign) := goodIn_app (goodIn_of _ (by decide +kernel)) ggX13_factor_X13_isSign
set_option maxRecDepth 20000 in
theorem ggX13_factor_X13_deeper : GoodIn wsX13_factor wsX13_deeper := goodIn_r _ [94, 95, 96, 97, 98, 7, 99, 100, 101, 102, 103, 104, 105, 106, 107, 108, 109, 110, 111, 112, 113, 114, 115, 116, 117, 118, 119, 120, 121, 122, 123, 124, 125, 126, 127, 128, 129, 130, 131, 132, 133, 134, 135, 136, 137, 138, 139, 140, 141, 142, 143, 144, 145, 146, 147, 148, 149, 150, 151, 152, 153, 154, 155, 156, 157, 158, 159, 160, 161, 162, 163, 164, 165, 166, 167, 168, 169, 170, 171, 172, 173, 174, 175, 176, 177, 178, 179, 180, 181, 182, 183, 184, 185, 186, 187, 188, 189, 190, 191, 192, 193, 194, 195, 196, 197, 198, 199, 200, 201, 202, 203, 204, 205] (by decide +kernel) (by decide +kernel)
set_option maxRecDepth 20000 in
theorem gX13_factor_X13_deeper : GoodIn wsX13_factor (wsV RX13 365 RX13 yX13_deeper wsX13_deeper) := goodIn_app (goodIn_of _ (by decide +kernel)) ggX13_factor_X13_deeper
set_option maxRecDepth 20000 in
theorem ggX13_factor_X13_push : GoodIn wsX13_factor wsX13_push := goodIn_r _ [99, 100, 101, 102, 103, 104, 105, 106, 107, 108, 109, 110, 111, 112, 113, 114, 115, 116, 117, 118, 119, 120, 121, 122, 123, 124, 125, 126, 127, 128, 129, 130, 131, 132, 133, 134, 135, 136, 137, 138, 139, 140, 141, 142, 143, 144, 145, 146, 147, 148, 149, 150, 151, 152, 153, 154, 155, 156, 157, 158, 159, 160, 161, 162, 163, 164, 165, 166, 167, 168, 169, 170, 171, 172, 173, 174, 175, 176, 177, 178, 179, 180, 181, 182, 183, 184, 185, 186, 187, 188, 189, 190, 191, 192, 193, 194, 195, 196, 197, 198, 199, 200, 201, 202, 203, 204, 205] (by decide +kernel) (by decide +kernel)
set_option maxRecDepth 20000 in
theorem gX13_factor_X13_push : GoodIn wsX13_factor (wsV RX13 307 RX13 yX13_push wsX13_push) := goodIn_app (goodIn_of _ (by decide +kernel)) ggX13_factor_X13_push
theorem dX13_factor_0 : decode cX13_factor 0 = .ok (.aload_n 0, 1) := by decide +kernel
theorem dX13_factor_1 : decode cX13_factor 1 = .ok (.getfield 281, 3) := by decide +kernel
theorem dX13_factor_4 : decode cX13_factor 4 = .ok (.iconst 1, 1) := by decide +kernel
theorem dX13_factor_5 : decode cX13_factor 5 = .ok (.if_icmp .ne 29, 3) := by decide +kernel
theorem dX13_factor_8 : decode cX13_factor 8 = .ok (.aload_n 0, 1) := by decide +kernel
theorem dX13_factor_9 : decode cX13_factor 9 = .ok (.getfield 278, 3) := by decide +kernel
theorem dX13_factor_12 : decode cX13_factor 12 = .ok (.ldc_w 364, 3) := by decide +kernel
theorem dX13_factor_15 : decode cX13_factor 15 = .ok (.if_icmp .le 5, 3) := by decide +kernel
theorem dX13_factor_18 : decode cX13_factor 18 = .ok (.iconst 0, 1) := by decide +kernel
theorem dX13_factor_19 : decode cX13_factor 19 = .ok (.ireturn, 1) := by decide +kernel
theorem dX13_factor_20 : decode cX13_factor 20 = .ok (.aload_n 0, 1) := by decide +kernel
theorem dX13_factor_21 : decode cX13_factor 21 = .ok (.iconst 0, 1) := by decide +kernel
theorem dX13_factor_22 : decode cX13_factor 22 = .ok (.aload_n 0, 1) := by decide +kernel
theorem dX13_factor_23 : decode cX13_factor 23 = .ok (.getfield 278, 3) := by decide +kernel
theorem dX13_factor_26 : decode cX13_factor 26 = .ok (.invokevirtual 311, 3) := by decide +kernel
theorem dX13_factor_29 : decode cX13_factor 29 = .ok (.aload_n 0, 1) := by decide +kernel
theorem dX13_factor_30 : decode cX13_factor 30 = .ok (.invokevirtual 318, 3) := by decide +kernel
theorem dX13_factor_33 : decode cX13_factor 33 = .ok (.ireturn, 1) := by decide +kernel
theorem dX13_factor_34 : decode cX13_factor 34 = .ok (.aload_n 0, 1) := by decide +kernel
theorem dX13_factor_35 : decode cX13_factor 35 = .ok (.getfield 281, 3) := by decide +kernel
theorem dX13_factor_38 : decode cX13_factor 38 = .ok (.iconst 2, 1) := by decide +kernel
theorem dX13_factor_39 : decode cX13_factor 39 = .ok (.if_icmp .ne 34, 3) := by decide +kernel
theorem dX13_factor_42 : decode cX13_factor 42 = .ok (.aload_n 0, 1) := by decide +kernel
theorem dX13_factor_43 : decode cX13_factor 43 = .ok (.getfield 278, 3) := by decide +kernel
theorem dX13_factor_46 : decode cX13_factor 46 = .ok (.bipush 16, 2) := by decide +kernel
theorem dX13_factor_48 : decode cX13_factor 48 = .ok (.bipush 24, 2) := by decide +kernel
theorem dX13_factor_50 : decode cX13_factor 50 = .ok (.invokestatic 256, 3) := by decide +kernel
theorem dX13_factor_53 : decode cX13_factor 53 = .ok (.ifCond .eq 20, 3) := by decide +kernel
theorem dX13_factor_56 : decode cX13_factor 56 = .ok (.aload_n 0, 1) := by decide +kernel
theorem dX13_factor_57 : decode cX13_factor 57 = .ok (.iconst 1, 1) := by decide +kernel
theorem dX13_factor_58 : decode cX13_factor 58 = .ok (.aload_n 0, 1) := by decide +kernel
theorem dX13_factor_59 : decode cX13_factor 59 = .ok (.getfield 278, 3) := by decide +kernel
theorem dX13_factor_62 : decode cX13_factor 62 = .ok (.bipush 16, 2) := by decide +kernel
theorem dX13_factor_64 : decode cX13_factor 64 = .ok (.isub, 1) := by decide +kernel
theorem dX13_factor_65 : decode cX13_factor 65 = .ok (.invokevirtual 311, 3) := by decide +kernel
theorem dX13_factor_68 : decode cX13_factor 68 = .ok (.aload_n 0, 1) := by decide +kernel
theorem dX13_factor_69 : decode cX13_factor 69 = .ok (.invokevirtual 318, 3) := by decide +kernel
theorem dX13_factor_72 : decode cX13_factor 72 = .ok (.ireturn, 1) := by decide +kernel
theorem dX13_factor_73 : decode cX13_factor 73 = .ok (.aload_n 0, 1) := by decide +kernel
theorem dX13_factor_74 : decode cX13_factor 74 = .ok (.bipush 40, 2) := by decide +kernel
theorem dX13_factor_76 : decode cX13_factor 76 = .ok (.invokevirtual 315, 3) := by decide +kernel
theorem dX13_factor_79 : decode cX13_factor 79 = .ok (.ifCond .eq 10, 3) := by decide +kernel
theorem dX13_factor_82 : decode cX13_factor 82 = .ok (.aload_n 0, 1) := by decide +kernel
theorem dX13_factor_83 : decode cX13_factor 83 = .ok (.invokevirtual 365, 3) := by decide +kernel
theorem dX13_factor_86 : decode cX13_factor 86 = .ok (.ifCond .ne 5, 3) := by decide +kernel
theorem dX13_factor_89 : decode cX13_factor 89 = .ok (.iconst 0, 1) := by decide +kernel
theorem dX13_factor_90 : decode cX13_factor 90 = .ok (.ireturn, 1) := by decide +kernel
theorem dX13_factor_91 : decode cX13_factor 91 = .ok (.aload_n 0, 1) := by decide +kernel
theorem dX13_factor_92 : decode cX13_factor 92 = .ok (.sipush 141, 3) := by decide +kernel
theorem dX13_factor_95 : decode cX13_factor 95 = .ok (.invokevirtual 307, 3) := by decide +kernel
theorem dX13_factor_98 : decode cX13_factor 98 = .ok (.aload_n 0, 1) := by decide +kernel
theorem dX13_factor_99 : decode cX13_factor 99 = .ok (.iconst 1, 1) := by decide +kernel
theorem dX13_factor_100 : decode cX13_factor 100 = .ok (.invokevirtual 307, 3) := by decide +kernel
theorem dX13_factor_103 : decode cX13_factor 103 = .ok (.aload_n 0, 1) := by decide +kernel
theorem dX13_factor_104 : decode cX13_factor 104 = .ok (.invokevirtual 318, 3) := by decide +kernel
theorem dX13_factor_107 : decode cX13_factor 107 = .ok (.ireturn, 1) := by decide +kernel
set_option maxRecDepth 20000 in
theorem ggX13_holds_X13_isWord : GoodIn wsX13_holds wsX13_isWord := goodIn_r _ [5, 6, 7, 99, 100, 101, 102, 103, 104, 105, 106, 107, 108, 109, 110, 111, 112, 113, 114, 115, 116, 117, 118, 119, 120, 121, 122, 123, 124, 125, 126, 127, 128, 129, 130, 131, 132, 133, 134, 135, 136, 137, 138, 139, 140, 141, 142, 143, 144, 145, 146, 147, 148, 149, 150, 151, 152, 153, 154, 155, 156, 157, 158, 159, 160, 161, 162, 163, 164, 165, 166, 167, 168, 169, 170, 171, 172, 173, 174, 175, 176, 177, 178, 179, 180, 181, 182, 183, 184, 185, 186, 187, 188, 189, 190, 191, 192, 193, 194, 195, 196, 197, 198, 199, 200, 201, 202] (by decide +kernel) (by decide +kernel)
set_option maxRecDepth 20000 in
theorem gX13_holds_X13_isWord : GoodIn wsX13_holds (wsV RX13 349 RX13 yX13_isWord wsX13_isWord) := goodIn_app (goodIn_of _ (by decide +kernel)) ggX13_holds_X13_isWord
set_option maxRecDepth 20000 in
theorem ggX13_holds_X13_deeper : GoodIn wsX13_holds wsX13_deeper := goodIn_r _ [11, 12, 13, 14, 15, 4, 16, 17, 18, 99, 100, 101, 102, 103, 104, 105, 106, 107, 108, 109, 110, 111, 112, 113, 114, 115, 116, 117, 118, 119, 120, 121, 122, 123, 124, 125, 126, 127, 128, 129, 130, 131, 132, 133, 134, 135, 136, 137, 138, 139, 140, 141, 142, 143, 144, 145, 146, 147, 148, 149, 150, 151, 152, 153, 154, 155, 156, 157, 158, 159, 160, 161, 162, 163, 164, 165, 166, 167, 168, 169, 170, 171, 172, 173, 174, 175, 176, 177, 178, 179, 180, 181, 182, 183, 184, 185, 186, 187, 188, 189, 190, 191, 192, 193, 194, 195, 196, 197, 198, 199, 200, 201, 202] (by decide +kernel) (by decide +kernel)
set_option maxRecDepth 20000 in
theorem gX13_holds_X13_deeper : GoodIn wsX13_holds (wsV RX13 365 RX13 yX13_deeper wsX13_deeper) := goodIn_app (goodIn_of _ (by decide +kernel)) ggX13_holds_X13_deeper
set_option maxRecDepth 20000 in
theorem ggX13_holds_X13_push : GoodIn wsX13_holds wsX13_push := goodIn_r _ [16, 17, 18, 99, 100, 101, 102, 103, 104, 105, 106, 107, 108, 109, 110, 111, 112, 113, 114, 115, 116, 117, 118, 119, 120, 121, 122, 123, 124, 125, 126, 127, 128, 129, 130, 131, 132, 133, 134, 135, 136, 137, 138, 139, 140, 141, 142, 143, 144, 145, 146, 147, 148, 149, 150, 151, 152, 153, 154, 155, 156, 157, 158, 159, 160, 161, 162, 163, 164, 165, 166, 167, 168, 169, 170, 171, 172, 173, 174, 175, 176, 177, 178, 179, 180, 181, 182, 183, 184, 185, 186, 187, 188, 189, 190, 191, 192, 193, 194, 195, 196, 197, 198, 199, 200, 201, 202] (by decide +kernel) (by decide +kernel)
set_option maxRecDepth 20000 in
theorem gX13_holds_X13_push : GoodIn wsX13_holds (wsV RX13 307 RX13 yX13_push wsX13_push) := goodIn_app (goodIn_of _ (by decide +kernel)) ggX13_holds_X13_push
set_option maxRecDepth 20000 in
theorem ggX13_holds_X13_takes : GoodIn wsX13_holds wsX13_takes := goodIn_r _ [22, 23, 24, 25, 4, 26, 27, 28, 29, 30, 7, 6, 31, 32, 33, 34, 35, 36, 37, 38, 39, 40, 41, 42, 43, 44, 45, 46, 47, 48, 49, 50, 51, 52, 53, 54, 55, 56, 57, 58, 59, 60, 61, 62, 63, 64, 65, 66, 67, 68, 69, 70, 71, 72, 73, 74, 75, 76, 77, 78, 79, 80, 81, 82, 83, 84, 85, 86, 87, 88, 89, 90, 99, 100, 101, 102, 103, 104, 105, 106, 107, 108, 109, 110, 111, 112, 113, 114, 115, 116, 117, 118, 119, 120, 121, 122, 123, 124, 125, 126, 127, 128, 129, 130, 131, 132, 133, 134, 135, 136, 137, 138, 139, 140, 141, 142, 143, 144, 145, 146, 147, 148, 149, 150, 151, 152, 153, 154, 155, 156, 157, 158, 159, 160, 161, 162, 163, 164, 165, 166, 167, 168, 169, 170, 171, 172, 173, 174, 175, 176, 177, 178, 179, 180, 181, 182, 183, 184, 185, 186, 187, 188, 189, 190, 191, 192, 193, 194, 195, 196, 197, 198, 199, 200, 201, 202] (by decide +kernel) (by decide +kernel)
set_option maxRecDepth 20000 in
theorem gX13_holds_X13_takes : GoodIn wsX13_holds (wsV RX13 318 RX13 yX13_takes wsX13_takes) := goodIn_app (goodIn_of _ (by decide +kernel)) ggX13_holds_X13_takes
set_option maxRecDepth 20000 in
theorem ggX13_holds_X13_isSign : GoodIn wsX13_holds wsX13_isSign := goodIn_r _ [94, 6, 7, 99, 100, 101, 102, 103, 104, 105, 106, 107, 108, 109, 110, 111, 112, 113, 114, 115, 116, 117, 118, 119, 120, 121, 122, 123, 124, 125, 126, 127, 128, 129, 130, 131, 132, 133, 134, 135, 136, 137, 138, 139, 140, 141, 142, 143, 144, 145, 146, 147, 148, 149, 150, 151, 152, 153, 154, 155, 156, 157, 158, 159, 160, 161, 162, 163, 164, 165, 166, 167, 168, 169, 170, 171, 172, 173, 174, 175, 176, 177, 178, 179, 180, 181, 182, 183, 184, 185, 186, 187, 188, 189, 190, 191, 192, 193, 194, 195, 196, 197, 198, 199, 200, 201, 202] (by decide +kernel) (by decide +kernel)
set_option maxRecDepth 20000 in
theorem gX13_holds_X13_isSign : GoodIn wsX13_holds (wsV RX13 315 RX13 yX13_isSign wsX13_isSign) := goodIn_app (goodIn_of _ (by decide +kernel)) ggX13_holds_X13_isSign
set_option maxRecDepth 20000 in
theorem ggX13_holds_X13_both : GoodIn wsX13_holds wsX13_both := goodIn_r _ [98, 13, 14, 15, 4, 16, 17, 18, 99, 100, 101, 102, 103, 104, 105, 106, 107, 108, 109, 110, 111, 112, 113, 114, 115, 116, 117, 118, 119, 120, 121, 122, 123, 124, 125, 126, 127, 128, 129, 130, 131, 132, 133, 134, 135, 136, 137, 138, 139, 140, 141, 142, 143, 144, 145, 146, 147, 148, 149, 150, 151, 152, 153, 154, 155, 156, 157, 158, 159, 160, 161, 162, 163, 164, 165, 166, 167, 168, 169, 170, 171, 172, 173, 174, 175, 176, 177, 178, 179, 180, 181, 182, 183, 184, 185, 186, 187, 188, 189, 190, 191, 192, 193, 194, 195, 196, 197, 198, 199, 200, 201, 202] (by decide +kernel) (by decide +kernel)
set_option maxRecDepth 20000 in
theorem gX13_holds_X13_both : GoodIn wsX13_holds (wsV RX13 325 RX13 yX13_both wsX13_both) := goodIn_app (goodIn_of _ (by decide +kernel)) ggX13_holds_X13_both
theorem dX13_holds_0 : decode cX13_holds 0 = .ok (.aload_n 0, 1) := by decide +kernel
theorem dX13_holds_1 : decode cX13_holds 1 = .ok (.bipush 27, 2) := by decide +kernel
theorem dX13_holds_3 : decode cX13_holds 3 = .ok (.invokevirtual 349, 3) := by decide +kernel
theorem dX13_holds_6 : decode cX13_holds 6 = .ok (.ifCond .eq 30, 3) := by decide +kernel
theorem dX13_holds_9 : decode cX13_holds 9 = .ok (.aload_n 0, 1) := by decide +kernel
theorem dX13_holds_10 : decode cX13_holds 10 = .ok (.invokevirtual 365, 3) := by decide +kernel
theorem dX13_holds_13 : decode cX13_holds 13 = .ok (.ifCond .ne 5, 3) := by decide +kernel
theorem dX13_holds_16 : decode cX13_holds 16 = .ok (.iconst 0, 1) := by decide +kernel
theorem dX13_holds_17 : decode cX13_holds 17 = .ok (.ireturn, 1) := by decide +kernel
theorem dX13_holds_18 : decode cX13_holds 18 = .ok (.aload_n 0, 1) := by decide +kernel
theorem dX13_holds_19 : decode cX13_holds 19 = .ok (.sipush 1011, 3) := by decide +kernel
theorem dX13_holds_22 : decode cX13_holds 22 = .ok (.invokevirtual 307, 3) := by decide +kernel
theorem dX13_holds_25 : decode cX13_holds 25 = .ok (.aload_n 0, 1) := by decide +kernel
theorem dX13_holds_26 : decode cX13_holds 26 = .ok (.bipush 10, 2) := by decide +kernel
theorem dX13_holds_28 : decode cX13_holds 28 = .ok (.invokevirtual 307, 3) := by decide +kernel
theorem dX13_holds_31 : decode cX13_holds 31 = .ok (.aload_n 0, 1) := by decide +kernel
theorem dX13_holds_32 : decode cX13_holds 32 = .ok (.invokevirtual 318, 3) := by decide +kernel
theorem dX13_holds_35 : decode cX13_holds 35 = .ok (.ireturn, 1) := by decide +kernel
theorem dX13_holds_36 : decode cX13_holds 36 = .ok (.aload_n 0, 1) := by decide +kernel
theorem dX13_holds_37 : decode cX13_holds 37 = .ok (.bipush 91, 2) := by decide +kernel
theorem dX13_holds_39 : decode cX13_holds 39 = .ok (.invokevirtual 315, 3) := by decide +kernel
theorem dX13_holds_42 : decode cX13_holds 42 = .ok (.ifCond .eq 30, 3) := by decide +kernel
theorem dX13_holds_45 : decode cX13_holds 45 = .ok (.aload_n 0, 1) := by decide +kernel
theorem dX13_holds_46 : decode cX13_holds 46 = .ok (.invokevirtual 365, 3) := by decide +kernel
theorem dX13_holds_49 : decode cX13_holds 49 = .ok (.ifCond .ne 5, 3) := by decide +kernel
theorem dX13_holds_52 : decode cX13_holds 52 = .ok (.iconst 0, 1) := by decide +kernel
theorem dX13_holds_53 : decode cX13_holds 53 = .ok (.ireturn, 1) := by decide +kernel
theorem dX13_holds_54 : decode cX13_holds 54 = .ok (.aload_n 0, 1) := by decide +kernel
theorem dX13_holds_55 : decode cX13_holds 55 = .ok (.sipush 193, 3) := by decide +kernel
theorem dX13_holds_58 : decode cX13_holds 58 = .ok (.invokevirtual 307, 3) := by decide +kernel
theorem dX13_holds_61 : decode cX13_holds 61 = .ok (.aload_n 0, 1) := by decide +kernel
theorem dX13_holds_62 : decode cX13_holds 62 = .ok (.bipush 6, 2) := by decide +kernel
theorem dX13_holds_64 : decode cX13_holds 64 = .ok (.invokevirtual 307, 3) := by decide +kernel
theorem dX13_holds_67 : decode cX13_holds 67 = .ok (.aload_n 0, 1) := by decide +kernel
theorem dX13_holds_68 : decode cX13_holds 68 = .ok (.invokevirtual 318, 3) := by decide +kernel
theorem dX13_holds_71 : decode cX13_holds 71 = .ok (.ireturn, 1) := by decide +kernel
theorem dX13_holds_72 : decode cX13_holds 72 = .ok (.aload_n 0, 1) := by decide +kernel
theorem dX13_holds_73 : decode cX13_holds 73 = .ok (.bipush 11, 2) := by decide +kernel
theorem dX13_holds_75 : decode cX13_holds 75 = .ok (.iconst 1, 1) := by decide +kernel
theorem dX13_holds_76 : decode cX13_holds 76 = .ok (.invokevirtual 325, 3) := by decide +kernel
theorem dX13_holds_79 : decode cX13_holds 79 = .ok (.ireturn, 1) := by decide +kernel
set_option maxRecDepth 20000 in
theorem ggX13_compares_X13_isSign : GoodIn wsX13_compares wsX13_isSign := goodIn_r _ [5, 6, 7, 86, 87, 88, 89, 90, 91, 92, 93, 94, 95, 96, 97, 98, 99, 100, 101, 102, 103, 104, 105, 106, 107, 108, 109, 110, 111, 112, 113, 114, 115, 116, 117, 118, 119, 120, 121, 122, 123, 124, 125, 126, 127, 128, 129, 130, 131, 132, 133, 134, 135, 136, 137, 138, 139, 140, 141, 142, 143, 144, 145, 146, 147, 148, 149, 150, 151, 152, 153, 154, 155, 156, 157, 158, 159, 160, 161, 162, 163, 164, 165, 166, 167, 168, 169, 170, 171, 172, 173, 174, 175, 176, 177, 178, 179, 180, 181, 182, 183, 184, 185, 186, 187, 188, 189] (by decide +kernel) (by decide +kernel)
set_option maxRecDepth 20000 in
theorem gX13_compares_X13_isSign : GoodIn wsX13_compares (wsV RX13 315 RX13 yX13_isSign wsX13_isSign) := goodIn_app (goodIn_of _ (by decide +kernel)) ggX13_compares_X13_isSign
set_option maxRecDepth 20000 in
theorem ggX13_compares_X13_push : GoodIn wsX13_compares wsX13_push := goodIn_r _ [11, 12, 13, 86, 87, 88, 89, 90, 91, 92, 93, 94, 95, 96, 97, 98, 99, 100, 101, 102, 103, 104, 105, 106, 107, 108, 109, 110, 111, 112, 113, 114, 115, 116, 117, 118, 119, 120, 121, 122, 123, 124, 125, 126, 127, 128, 129, 130, 131, 132, 133, 134, 135, 136, 137, 138, 139, 140, 141, 142, 143, 144, 145, 146, 147, 148, 149, 150, 151, 152, 153, 154, 155, 156, 157, 158, 159, 160, 161, 162, 163, 164, 165, 166, 167, 168, 169, 170, 171, 172, 173, 174, 175, 176, 177, 178, 179, 180, 181, 182, 183, 184, 185, 186, 187, 188, 189] (by decide +kernel) (by decide +kernel)
set_option maxRecDepth 20000 in
theorem gX13_compares_X13_push : GoodIn wsX13_compares (wsV RX13 307 RX13 yX13_push wsX13_push) := goodIn_app (goodIn_of _ (by decide +kernel)) ggX13_compares_X13_push
set_option maxRecDepth 20000 in
theorem ggX13_compares_X13_takes : GoodIn wsX13_compares wsX13_takes := goodIn_r _ [17, 18, 19, 20, 4, 21, 22, 23, 24, 25, 7, 6, 26, 27, 28, 29, 30, 31, 32, 33, 34, 35, 36, 37, 38, 39, 40, 41, 42, 43, 44, 45, 46, 47, 48, 49, 50, 51, 52, 53, 54, 55, 56, 57, 58, 59, 60, 61, 62, 63, 64, 65, 66, 67, 68, 69, 70, 71, 72, 73, 74, 75, 76, 77, 78, 79, 80, 81, 82, 83, 84, 85, 86, 87, 88, 89, 90, 91, 92, 93, 94, 95, 96, 97, 98, 99, 100, 101, 102, 103, 104, 105, 106, 107, 108, 109, 110, 111, 112, 113, 114, 115, 116, 117, 118, 119, 120, 121, 122, 123, 124, 125, 126, 127, 128, 129, 130, 131, 132, 133, 134, 135, 136, 137, 138, 139, 140, 141, 142, 143, 144, 145, 146, 147, 148, 149, 150, 151, 152, 153, 154, 155, 156, 157, 158, 159, 160, 161, 162, 163, 164, 165, 166, 167, 168, 169, 170, 171, 172, 173, 174, 175, 176, 177, 178, 179, 180, 181, 182, 183, 184, 185, 186, 187, 188, 189] (by decide +kernel) (by decide +kernel)
set_option maxRecDepth 20000 in
theorem gX13_compares_X13_takes : GoodIn wsX13_compares (wsV RX13 318 RX13 yX13_takes wsX13_takes) := goodIn_app (goodIn_of _ (by decide +kernel)) ggX13_compares_X13_takes
theorem dX13_compares_0 : decode cX13_compares 0 = .ok (.aload_n 0, 1) := by decide +kernel
theorem dX13_compares_1 : decode cX13_compares 1 = .ok (.bipush 60, 2) := by decide +kernel
theorem dX13_compares_3 : decode cX13_compares 3 = .ok (.invokevirtual 315, 3) := by decide +kernel
theorem dX13_compares_6 : decode cX13_compares 6 = .ok (.ifCond .ne 23, 3) := by decide +kernel
theorem dX13_compares_9 : decode cX13_compares 9 = .ok (.aload_n 0, 1) := by decide +kernel
theorem dX13_compares_10 : decode cX13_compares 10 = .ok (.bipush 62, 2) := by decide +kernel
theorem dX13_compares_12 : decode cX13_compares 12 = .ok (.invokevirtual 315, 3) := by decide +kernel
theorem dX13_compares_15 : decode cX13_compares 15 = .ok (.ifCond .ne 14, 3) := by decide +kernel
theorem dX13_compares_18 : decode cX13_compares 18 = .ok (.aload_n 0, 1) := by decide +kernel
theorem dX13_compares_19 : decode cX13_compares 19 = .ok (.bipush 61, 2) := by decide +kernel
theorem dX13_compares_21 : decode cX13_compares 21 = .ok (.invokevirtual 315, 3) := by decide +kernel
theorem dX13_compares_24 : decode cX13_compares 24 = .ok (.ifCond .ne 5, 3) := by decide +kernel
theorem dX13_compares_27 : decode cX13_compares 27 = .ok (.iconst 0, 1) := by decide +kernel
theorem dX13_compares_28 : decode cX13_compares 28 = .ok (.ireturn, 1) := by decide +kernel
theorem dX13_compares_29 : decode cX13_compares 29 = .ok (.aload_n 0, 1) := by decide +kernel
theorem dX13_compares_30 : decode cX13_compares 30 = .ok (.sipush 1000, 3) := by decide +kernel
theorem dX13_compares_33 : decode cX13_compares 33 = .ok (.aload_n 0, 1) := by decide +kernel
theorem dX13_compares_34 : decode cX13_compares 34 = .ok (.bipush 60, 2) := by decide +kernel
theorem dX13_compares_36 : decode cX13_compares 36 = .ok (.invokevirtual 315, 3) := by decide +kernel
theorem dX13_compares_39 : decode cX13_compares 39 = .ok (.ifCond .eq 8, 3) := by decide +kernel
theorem dX13_compares_42 : decode cX13_compares 42 = .ok (.bipush 6, 2) := by decide +kernel
theorem dX13_compares_44 : decode cX13_compares 44 = .ok (.goto 19, 3) := by decide +kernel
theorem dX13_compares_47 : decode cX13_compares 47 = .ok (.aload_n 0, 1) := by decide +kernel
theorem dX13_compares_48 : decode cX13_compares 48 = .ok (.bipush 62, 2) := by decide +kernel
theorem dX13_compares_50 : decode cX13_compares 50 = .ok (.invokevirtual 315, 3) := by decide +kernel
theorem dX13_compares_53 : decode cX13_compares 53 = .ok (.ifCond .eq 8, 3) := by decide +kernel
theorem dX13_compares_56 : decode cX13_compares 56 = .ok (.bipush 7, 2) := by decide +kernel
theorem dX13_compares_58 : decode cX13_compares 58 = .ok (.goto 5, 3) := by decide +kernel
theorem dX13_compares_61 : decode cX13_compares 61 = .ok (.bipush 8, 2) := by decide +kernel
theorem dX13_compares_63 : decode cX13_compares 63 = .ok (.iadd, 1) := by decide +kernel
theorem dX13_compares_64 : decode cX13_compares 64 = .ok (.invokevirtual 307, 3) := by decide +kernel
theorem dX13_compares_67 : decode cX13_compares 67 = .ok (.aload_n 0, 1) := by decide +kernel
theorem dX13_compares_68 : decode cX13_compares 68 = .ok (.iconst 1, 1) := by decide +kernel
theorem dX13_compares_69 : decode cX13_compares 69 = .ok (.invokevirtual 307, 3) := by decide +kernel
theorem dX13_compares_72 : decode cX13_compares 72 = .ok (.aload_n 0, 1) := by decide +kernel
theorem dX13_compares_73 : decode cX13_compares 73 = .ok (.invokevirtual 318, 3) := by decide +kernel
theorem dX13_compares_76 : decode cX13_compares 76 = .ok (.ireturn, 1) := by decide +kernel
set_option maxRecDepth 20000 in
theorem ggX13_reads_X13_next : GoodIn wsX13_reads wsX13_next := goodIn_r _ [14, 1, 15, 16, 9, 17, 18, 19, 20, 21, 13, 22, 23, 24, 25, 26, 27, 28, 29, 30, 31, 32, 33, 34, 35, 36, 37, 38, 39, 40, 41, 42, 43, 44, 45, 46, 47, 48, 49, 50, 51, 52, 53, 54, 55, 56, 57, 58, 59, 60, 61, 62, 63, 64, 65, 66, 67, 68, 69, 70, 71, 72, 73, 74, 75, 76, 77, 78, 156, 157, 158, 159, 160, 161, 162, 163, 164, 165, 166, 167, 168, 169, 170, 171, 172, 173, 174, 175, 176, 177, 178, 179, 180, 181, 182, 183, 184, 185, 186, 187, 188, 189, 190, 191, 192, 193, 194, 195, 196, 197, 198, 199, 200, 201, 202, 203, 204, 205, 206, 207, 208, 209, 210, 211, 212, 213, 214, 215, 216, 217, 218, 219, 220, 221, 222, 223, 224, 225, 226, 227, 228, 229, 230, 231, 232, 233, 234, 235, 236, 237, 238, 239, 240, 241, 242, 243, 244, 245, 246, 247, 248, 249, 250, 251, 252, 253, 254, 255, 256, 257, 258, 259] (by decide +kernel) (by decide +kernel)
set_option maxRecDepth 20000 in
theorem gX13_reads_X13_next : GoodIn wsX13_reads (wsV RX13 301 RX13 yX13_next wsX13_next) := goodIn_app (goodIn_of _ (by decide +kernel)) ggX13_reads_X13_next
set_option maxRecDepth 20000 in
theorem ggX13_reads_X13_push : GoodIn wsX13_reads wsX13_push := goodIn_r _ [82, 8, 2, 156, 157, 158, 159, 160, 161, 162, 163, 164, 165, 166, 167, 168, 169, 170, 171, 172, 173, 174, 175, 176, 177, 178, 179, 180, 181, 182, 183, 184, 185, 186, 187, 188, 189, 190, 191, 192, 193, 194, 195, 196, 197, 198, 199, 200, 201, 202, 203, 204, 205, 206, 207, 208, 209, 210, 211, 212, 213, 214, 215, 216, 217, 218, 219, 220, 221, 222, 223, 224, 225, 226, 227, 228, 229, 230, 231, 232, 233, 234, 235, 236, 237, 238, 239, 240, 241, 242, 243, 244, 245, 246, 247, 248, 249, 250, 251, 252, 253, 254, 255, 256, 257, 258, 259] (by decide +kernel) (by decide +kernel)
set_option maxRecDepth 20000 in
theorem gX13_reads_X13_push : GoodIn wsX13_reads (wsV RX13 307 RX13 yX13_push wsX13_push) := goodIn_app (goodIn_of _ (by decide +kernel)) ggX13_reads_X13_push
set_option maxRecDepth 20000 in
theorem ggX13_reads_X13_steps : GoodIn wsX13_reads wsX13_steps := goodIn_r _ [86, 3, 7, 87, 4, 88, 89, 90, 13, 91, 92, 93, 94, 95, 96, 97, 18, 17, 98, 99, 100, 101, 10, 11, 12, 14, 1, 15, 16, 9, 19, 20, 21, 22, 23, 24, 25, 26, 27, 28, 29, 30, 31, 32, 33, 34, 35, 36, 37, 38, 39, 40, 41, 42, 43, 44, 45, 46, 47, 48, 49, 50, 51, 52, 53, 54, 55, 56, 57, 58, 59, 60, 61, 62, 63, 64, 65, 66, 67, 68, 69, 70, 71, 72, 73, 74, 75, 76, 77, 78, 102, 103, 104, 105, 106, 107, 108, 79, 80, 81, 82, 8, 2, 109, 110, 111, 112, 5, 113, 114, 115, 116, 117, 118, 6, 119, 120, 121, 122, 123, 124, 125, 126, 127, 128, 129, 130, 131, 132, 133, 134, 135, 136, 137, 138, 139, 140, 141, 142, 143, 144, 145, 146, 147, 148, 149, 150, 151, 152, 153, 154, 155, 156, 157, 158, 159, 160, 161, 162, 163, 164, 165, 166, 167, 168, 169, 170, 171, 172, 173, 174, 175, 176, 177, 178, 179, 180, 181, 182, 183, 184, 185, 186, 187, 188, 189, 190, 191, 192, 193, 194, 195, 196, 197, 198, 199, 200, 201, 202, 203, 204, 205, 206, 207, 208, 209, 210, 211, 212, 213, 214, 215, 216, 217, 218, 219, 220, 221, 222, 223, 224, 225, 226, 227, 228, 229, 230, 231, 232, 233, 234, 235, 236, 237, 238, 239, 240, 241, 242, 243, 244, 245, 246, 247, 248, 249, 250, 251, 252, 253, 254, 255, 256, 257, 258, 259] (by decide +kernel) (by decide +kernel)
set_option maxRecDepth 20000 in
theorem gX13_reads_X13_steps : GoodIn wsX13_reads (wsV RX13 368 RX13 yX13_steps wsX13_steps) := goodIn_app (goodIn_of _ (by decide +kernel)) ggX13_reads_X13_steps
theorem dX13_reads_0 : decode cX13_reads 0 = .ok (.aload_n 0, 1) := by decide +kernel
theorem dX13_reads_1 : decode cX13_reads 1 = .ok (.iconst 0, 1) := by decide +kernel
theorem dX13_reads_2 : decode cX13_reads 2 = .ok (.putfield 272, 3) := by decide +kernel
theorem dX13_reads_5 : decode cX13_reads 5 = .ok (.aload_n 0, 1) := by decide +kernel
theorem dX13_reads_6 : decode cX13_reads 6 = .ok (.iconst 0, 1) := by decide +kernel
theorem dX13_reads_7 : decode cX13_reads 7 = .ok (.putfield 295, 3) := by decide +kernel
theorem dX13_reads_10 : decode cX13_reads 10 = .ok (.aload_n 0, 1) := by decide +kernel
theorem dX13_reads_11 : decode cX13_reads 11 = .ok (.iconst 0, 1) := by decide +kernel
theorem dX13_reads_12 : decode cX13_reads 12 = .ok (.putfield 304, 3) := by decide +kernel
theorem dX13_reads_15 : decode cX13_reads 15 = .ok (.aload_n 0, 1) := by decide +kernel
theorem dX13_reads_16 : decode cX13_reads 16 = .ok (.iconst 0, 1) := by decide +kernel
theorem dX13_reads_17 : decode cX13_reads 17 = .ok (.putfield 298, 3) := by decide +kernel
theorem dX13_reads_20 : decode cX13_reads 20 = .ok (.aload_n 0, 1) := by decide +kernel
theorem dX13_reads_21 : decode cX13_reads 21 = .ok (.iconst 0, 1) := by decide +kernel
theorem dX13_reads_22 : decode cX13_reads 22 = .ok (.putfield 361, 3) := by decide +kernel
theorem dX13_reads_25 : decode cX13_reads 25 = .ok (.iconst 0, 1) := by decide +kernel
theorem dX13_reads_26 : decode cX13_reads 26 = .ok (.istore_n 1, 1) := by decide +kernel
theorem dX13_reads_27 : decode cX13_reads 27 = .ok (.iload_n 1, 1) := by decide +kernel
theorem dX13_reads_28 : decode cX13_reads 28 = .ok (.bipush 14, 2) := by decide +kernel
theorem dX13_reads_30 : decode cX13_reads 30 = .ok (.if_icmp .ge 23, 3) := by decide +kernel
theorem dX13_reads_33 : decode cX13_reads 33 = .ok (.aload_n 0, 1) := by decide +kernel
theorem dX13_reads_34 : decode cX13_reads 34 = .ok (.getfield 23, 3) := by decide +kernel
theorem dX13_reads_37 : decode cX13_reads 37 = .ok (.iload_n 1, 1) := by decide +kernel
theorem dX13_reads_38 : decode cX13_reads 38 = .ok (.iconst (-1), 1) := by decide +kernel
theorem dX13_reads_39 : decode cX13_reads 39 = .ok (.iastore, 1) := by decide +kernel
theorem dX13_reads_40 : decode cX13_reads 40 = .ok (.aload_n 0, 1) := by decide +kernel
theorem dX13_reads_41 : decode cX13_reads 41 = .ok (.getfield 26, 3) := by decide +kernel
theorem dX13_reads_44 : decode cX13_reads 44 = .ok (.iload_n 1, 1) := by decide +kernel
theorem dX13_reads_45 : decode cX13_reads 45 = .ok (.iconst (-1), 1) := by decide +kernel
theorem dX13_reads_46 : decode cX13_reads 46 = .ok (.iastore, 1) := by decide +kernel
theorem dX13_reads_47 : decode cX13_reads 47 = .ok (.iinc 1 1, 3) := by decide +kernel
theorem dX13_reads_50 : decode cX13_reads 50 = .ok (.goto (-23), 3) := by decide +kernel
theorem dX13_reads_53 : decode cX13_reads 53 = .ok (.aload_n 0, 1) := by decide +kernel
theorem dX13_reads_54 : decode cX13_reads 54 = .ok (.invokevirtual 301, 3) := by decide +kernel
theorem dX13_reads_57 : decode cX13_reads 57 = .ok (.aload_n 0, 1) := by decide +kernel
theorem dX13_reads_58 : decode cX13_reads 58 = .ok (.iconst 0, 1) := by decide +kernel
theorem dX13_reads_59 : decode cX13_reads 59 = .ok (.invokevirtual 307, 3) := by decide +kernel
theorem dX13_reads_62 : decode cX13_reads 62 = .ok (.aload_n 0, 1) := by decide +kernel
theorem dX13_reads_63 : decode cX13_reads 63 = .ok (.getfield 295, 3) := by decide +kernel
theorem dX13_reads_66 : decode cX13_reads 66 = .ok (.ifCond .le 34, 3) := by decide +kernel
theorem dX13_reads_69 : decode cX13_reads 69 = .ok (.aload_n 0, 1) := by decide +kernel
theorem dX13_reads_70 : decode cX13_reads 70 = .ok (.dup, 1) := by decide +kernel
theorem dX13_reads_71 : decode cX13_reads 71 = .ok (.getfield 295, 3) := by decide +kernel
theorem dX13_reads_74 : decode cX13_reads 74 = .ok (.iconst 1, 1) := by decide +kernel
theorem dX13_reads_75 : decode cX13_reads 75 = .ok (.isub, 1) := by decide +kernel
theorem dX13_reads_76 : decode cX13_reads 76 = .ok (.putfield 295, 3) := by decide +kernel
theorem dX13_reads_79 : decode cX13_reads 79 = .ok (.aload_n 0, 1) := by decide +kernel
theorem dX13_reads_80 : decode cX13_reads 80 = .ok (.aload_n 0, 1) := by decide +kernel
theorem dX13_reads_81 : decode cX13_reads 81 = .ok (.getfield 13, 3) := by decide +kernel
theorem dX13_reads_84 : decode cX13_reads 84 = .ok (.aload_n 0, 1) := by decide +kernel
theorem dX13_reads_85 : decode cX13_reads 85 = .ok (.getfield 295, 3) := by decide +kernel
theorem dX13_reads_88 : decode cX13_reads 88 = .ok (.iaload, 1) := by decide +kernel
theorem dX13_reads_89 : decode cX13_reads 89 = .ok (.invokevirtual 368, 3) := by decide +kernel
theorem dX13_reads_92 : decode cX13_reads 92 = .ok (.ifCond .ne (-30), 3) := by decide +kernel
theorem dX13_reads_95 : decode cX13_reads 95 = .ok (.aload_n 0, 1) := by decide +kernel
theorem dX13_reads_96 : decode cX13_reads 96 = .ok (.getfield 275, 3) := by decide +kernel
theorem dX13_reads_99 : decode cX13_reads 99 = .ok (.ireturn, 1) := by decide +kernel
theorem dX13_reads_100 : decode cX13_reads 100 = .ok (.iconst (-1), 1) := by decide +kernel
theorem dX13_reads_101 : decode cX13_reads 101 = .ok (.ireturn, 1) := by decide +kernel
set_option maxRecDepth 20000 in
theorem ggX13_fault_X13_reads : GoodIn wsX13_fault wsX13_reads := goodIn_r _ [5, 6, 7, 8, 9, 10, 11, 12, 13, 14, 15, 16, 17, 4, 18, 19, 20, 21, 22, 23, 24, 25, 26, 27, 28, 29, 30, 31, 32, 33, 34, 35, 36, 37, 38, 39, 40, 41, 42, 43, 44, 45, 46, 47, 48, 49, 50, 51, 52, 53, 54, 55, 56, 57, 58, 59, 60, 61, 62, 63, 64, 65, 66, 67, 68, 69, 70, 71, 72, 73, 74, 75, 76, 77, 78, 79, 80, 81, 82, 83, 84, 85, 86, 87, 88, 89, 90, 91, 92, 93, 94, 95, 96, 97, 98, 99, 100, 101, 102, 103, 104, 105, 106, 107, 108, 109, 110, 111, 112, 113, 114, 115, 116, 117, 118, 119, 120, 121, 122, 123, 124, 125, 126, 127, 128, 129, 130, 131, 132, 133, 134, 135, 136, 137, 138, 139, 140, 141, 142, 143, 144, 145, 146, 147, 148, 149, 150, 151, 152, 153, 154, 155, 156, 157, 158, 159, 160, 161, 162, 163, 164, 165, 166, 167, 168, 169, 170, 171, 172, 173, 174, 175, 176, 177, 178, 179, 180, 181, 182, 183, 184, 185, 186, 187, 188, 189, 190, 191, 192, 193, 194, 195, 196, 197, 198, 199, 200, 201, 202, 203, 204, 205, 206, 207, 208, 209, 210, 211, 212, 213, 214, 215, 216, 217, 218, 219, 220, 221, 222, 223, 224, 225, 226, 227, 228, 229, 230, 231, 232, 233, 234, 235, 236, 237, 238, 239, 240, 241, 242, 243, 244, 245, 246, 247, 248, 249, 250, 251, 252, 253, 254, 255, 256, 257, 258, 259, 260, 261, 262, 263] (by decide +kernel) (by decide +kernel)
set_option maxRecDepth 20000 in
theorem gX13_fault_X13_reads : GoodIn wsX13_fault (wsV RX13 371 RX13 yX13_reads wsX13_reads) := goodIn_app (goodIn_of _ (by decide +kernel)) ggX13_fault_X13_reads
theorem dX13_fault_0 : decode cX13_fault 0 = .ok (.aload_n 0, 1) := by decide +kernel
theorem dX13_fault_1 : decode cX13_fault 1 = .ok (.invokevirtual 371, 3) := by decide +kernel
theorem dX13_fault_4 : decode cX13_fault 4 = .ok (.ireturn, 1) := by decide +kernel
set_option maxRecDepth 20000 in
theorem ggX13_sheet_X13_reads : GoodIn wsX13_sheet wsX13_reads := goodIn_r _ [23, 24, 25, 26, 2, 12, 8, 10, 27, 28, 29, 30, 31, 22, 32, 18, 16, 33, 34, 35, 36, 37, 38, 39, 40, 41, 42, 43, 44, 45, 46, 47, 48, 49, 50, 51, 52, 53, 54, 55, 56, 57, 58, 59, 60, 61, 62, 63, 64, 65, 66, 67, 68, 69, 70, 71, 72, 73, 74, 75, 76, 77, 78, 79, 80, 81, 82, 83, 84, 85, 86, 87, 88, 89, 90, 91, 92, 93, 94, 95, 96, 97, 98, 99, 100, 101, 102, 103, 104, 105, 106, 107, 4, 6, 108, 109, 110, 111, 112, 113, 114, 115, 116, 117, 118, 119, 120, 121, 122, 123, 124, 125, 126, 17, 14, 127, 128, 129, 130, 131, 132, 133, 134, 135, 136, 137, 138, 139, 140, 141, 142, 143, 144, 145, 146, 147, 148, 149, 150, 151, 152, 153, 154, 155, 156, 157, 158, 159, 160, 161, 162, 163, 164, 165, 166, 167, 168, 169, 170, 171, 172, 173, 174, 175, 176, 177, 178, 179, 180, 181, 182, 183, 184, 185, 186, 187, 188, 189, 190, 191, 192, 193, 194, 195, 196, 197, 198, 199, 200, 201, 202, 203, 204, 205, 206, 207, 208, 209, 210, 211, 212, 213, 214, 215, 216, 217, 218, 219, 220, 221, 222, 223, 224, 225, 226, 227, 228, 229, 230, 231, 232, 233, 234, 235, 236, 237, 238, 239, 240, 241, 242, 243, 244, 245, 246, 247, 248, 249, 250, 251, 252, 253, 254, 255, 256, 257, 258, 259, 260, 261, 262, 263, 264, 265, 266, 267, 268, 269, 270, 271] (by decide +kernel) (by decide +kernel)
set_option maxRecDepth 20000 in
theorem gX13_sheet_X13_reads : GoodIn wsX13_sheet (wsV RX13 371 RX13 yX13_reads wsX13_reads) := goodIn_app (goodIn_of _ (by decide +kernel)) ggX13_sheet_X13_reads
theorem dX13_sheet_0 : decode cX13_sheet 0 = .ok (.aload_n 0, 1) := by decide +kernel
theorem dX13_sheet_1 : decode cX13_sheet 1 = .ok (.getfield 374, 3) := by decide +kernel
theorem dX13_sheet_4 : decode cX13_sheet 4 = .ok (.bipush 12, 2) := by decide +kernel
theorem dX13_sheet_6 : decode cX13_sheet 6 = .ok (.if_icmp .eq 11, 3) := by decide +kernel
theorem dX13_sheet_9 : decode cX13_sheet 9 = .ok (.aload_n 0, 1) := by decide +kernel
theorem dX13_sheet_10 : decode cX13_sheet 10 = .ok (.invokevirtual 371, 3) := by decide +kernel
theorem dX13_sheet_13 : decode cX13_sheet 13 = .ok (.iconst (-1), 1) := by decide +kernel
theorem dX13_sheet_14 : decode cX13_sheet 14 = .ok (.if_icmp .eq 5, 3) := by decide +kernel
theorem dX13_sheet_17 : decode cX13_sheet 17 = .ok (.iconst (-1), 1) := by decide +kernel
theorem dX13_sheet_18 : decode cX13_sheet 18 = .ok (.ireturn, 1) := by decide +kernel
theorem dX13_sheet_19 : decode cX13_sheet 19 = .ok (.iconst 0, 1) := by decide +kernel
theorem dX13_sheet_20 : decode cX13_sheet 20 = .ok (.istore_n 1, 1) := by decide +kernel
theorem dX13_sheet_21 : decode cX13_sheet 21 = .ok (.iload_n 1, 1) := by decide +kernel
theorem dX13_sheet_22 : decode cX13_sheet 22 = .ok (.aload_n 0, 1) := by decide +kernel
theorem dX13_sheet_23 : decode cX13_sheet 23 = .ok (.getfield 298, 3) := by decide +kernel
theorem dX13_sheet_26 : decode cX13_sheet 26 = .ok (.if_icmp .ge 51, 3) := by decide +kernel
theorem dX13_sheet_29 : decode cX13_sheet 29 = .ok (.aload_n 0, 1) := by decide +kernel
theorem dX13_sheet_30 : decode cX13_sheet 30 = .ok (.getfield 35, 3) := by decide +kernel
theorem dX13_sheet_33 : decode cX13_sheet 33 = .ok (.sipush 600, 3) := by decide +kernel
theorem dX13_sheet_36 : decode cX13_sheet 36 = .ok (.aload_n 0, 1) := by decide +kernel
theorem dX13_sheet_37 : decode cX13_sheet 37 = .ok (.getfield 374, 3) := by decide +kernel
theorem dX13_sheet_40 : decode cX13_sheet 40 = .ok (.imul, 1) := by decide +kernel
theorem dX13_sheet_41 : decode cX13_sheet 41 = .ok (.iload_n 1, 1) := by decide +kernel
theorem dX13_sheet_42 : decode cX13_sheet 42 = .ok (.iadd, 1) := by decide +kernel
theorem dX13_sheet_43 : decode cX13_sheet 43 = .ok (.aload_n 0, 1) := by decide +kernel
theorem dX13_sheet_44 : decode cX13_sheet 44 = .ok (.getfield 17, 3) := by decide +kernel
theorem dX13_sheet_47 : decode cX13_sheet 47 = .ok (.iload_n 1, 1) := by decide +kernel
theorem dX13_sheet_48 : decode cX13_sheet 48 = .ok (.iaload, 1) := by decide +kernel
theorem dX13_sheet_49 : decode cX13_sheet 49 = .ok (.iastore, 1) := by decide +kernel
theorem dX13_sheet_50 : decode cX13_sheet 50 = .ok (.aload_n 0, 1) := by decide +kernel
theorem dX13_sheet_51 : decode cX13_sheet 51 = .ok (.getfield 38, 3) := by decide +kernel
theorem dX13_sheet_54 : decode cX13_sheet 54 = .ok (.sipush 600, 3) := by decide +kernel
theorem dX13_sheet_57 : decode cX13_sheet 57 = .ok (.aload_n 0, 1) := by decide +kernel
theorem dX13_sheet_58 : decode cX13_sheet 58 = .ok (.getfield 374, 3) := by decide +kernel
theorem dX13_sheet_61 : decode cX13_sheet 61 = .ok (.imul, 1) := by decide +kernel
theorem dX13_sheet_62 : decode cX13_sheet 62 = .ok (.iload_n 1, 1) := by decide +kernel
theorem dX13_sheet_63 : decode cX13_sheet 63 = .ok (.iadd, 1) := by decide +kernel
theorem dX13_sheet_64 : decode cX13_sheet 64 = .ok (.aload_n 0, 1) := by decide +kernel
theorem dX13_sheet_65 : decode cX13_sheet 65 = .ok (.getfield 20, 3) := by decide +kernel
theorem dX13_sheet_68 : decode cX13_sheet 68 = .ok (.iload_n 1, 1) := by decide +kernel
theorem dX13_sheet_69 : decode cX13_sheet 69 = .ok (.iaload, 1) := by decide +kernel
theorem dX13_sheet_70 : decode cX13_sheet 70 = .ok (.iastore, 1) := by decide +kernel
theorem dX13_sheet_71 : decode cX13_sheet 71 = .ok (.iinc 1 1, 3) := by decide +kernel
theorem dX13_sheet_74 : decode cX13_sheet 74 = .ok (.goto (-53), 3) := by decide +kernel
theorem dX13_sheet_77 : decode cX13_sheet 77 = .ok (.iconst 0, 1) := by decide +kernel
theorem dX13_sheet_78 : decode cX13_sheet 78 = .ok (.istore_n 1, 1) := by decide +kernel
theorem dX13_sheet_79 : decode cX13_sheet 79 = .ok (.iload_n 1, 1) := by decide +kernel
theorem dX13_sheet_80 : decode cX13_sheet 80 = .ok (.bipush 14, 2) := by decide +kernel
theorem dX13_sheet_82 : decode cX13_sheet 82 = .ok (.if_icmp .ge 49, 3) := by decide +kernel
theorem dX13_sheet_85 : decode cX13_sheet 85 = .ok (.aload_n 0, 1) := by decide +kernel
theorem dX13_sheet_86 : decode cX13_sheet 86 = .ok (.getfield 41, 3) := by decide +kernel
theorem dX13_sheet_89 : decode cX13_sheet 89 = .ok (.bipush 14, 2) := by decide +kernel
theorem dX13_sheet_91 : decode cX13_sheet 91 = .ok (.aload_n 0, 1) := by decide +kernel
theorem dX13_sheet_92 : decode cX13_sheet 92 = .ok (.getfield 374, 3) := by decide +kernel
theorem dX13_sheet_95 : decode cX13_sheet 95 = .ok (.imul, 1) := by decide +kernel
theorem dX13_sheet_96 : decode cX13_sheet 96 = .ok (.iload_n 1, 1) := by decide +kernel
theorem dX13_sheet_97 : decode cX13_sheet 97 = .ok (.iadd, 1) := by decide +kernel
theorem dX13_sheet_98 : decode cX13_sheet 98 = .ok (.aload_n 0, 1) := by decide +kernel
theorem dX13_sheet_99 : decode cX13_sheet 99 = .ok (.getfield 23, 3) := by decide +kernel
theorem dX13_sheet_102 : decode cX13_sheet 102 = .ok (.iload_n 1, 1) := by decide +kernel
theorem dX13_sheet_103 : decode cX13_sheet 103 = .ok (.iaload, 1) := by decide +kernel
theorem dX13_sheet_104 : decode cX13_sheet 104 = .ok (.iastore, 1) := by decide +kernel
theorem dX13_sheet_105 : decode cX13_sheet 105 = .ok (.aload_n 0, 1) := by decide +kernel
theorem dX13_sheet_106 : decode cX13_sheet 106 = .ok (.getfield 44, 3) := by decide +kernel
theorem dX13_sheet_109 : decode cX13_sheet 109 = .ok (.bipush 14, 2) := by decide +kernel
theorem dX13_sheet_111 : decode cX13_sheet 111 = .ok (.aload_n 0, 1) := by decide +kernel
theorem dX13_sheet_112 : decode cX13_sheet 112 = .ok (.getfield 374, 3) := by decide +kernel
theorem dX13_sheet_115 : decode cX13_sheet 115 = .ok (.imul, 1) := by decide +kernel
theorem dX13_sheet_116 : decode cX13_sheet 116 = .ok (.iload_n 1, 1) := by decide +kernel
theorem dX13_sheet_117 : decode cX13_sheet 117 = .ok (.iadd, 1) := by decide +kernel
theorem dX13_sheet_118 : decode cX13_sheet 118 = .ok (.aload_n 0, 1) := by decide +kernel
theorem dX13_sheet_119 : decode cX13_sheet 119 = .ok (.getfield 26, 3) := by decide +kernel
theorem dX13_sheet_122 : decode cX13_sheet 122 = .ok (.iload_n 1, 1) := by decide +kernel
theorem dX13_sheet_123 : decode cX13_sheet 123 = .ok (.iaload, 1) := by decide +kernel
theorem dX13_sheet_124 : decode cX13_sheet 124 = .ok (.iastore, 1) := by decide +kernel
theorem dX13_sheet_125 : decode cX13_sheet 125 = .ok (.iinc 1 1, 3) := by decide +kernel
theorem dX13_sheet_128 : decode cX13_sheet 128 = .ok (.goto (-49), 3) := by decide +kernel
theorem dX13_sheet_131 : decode cX13_sheet 131 = .ok (.aload_n 0, 1) := by decide +kernel
theorem dX13_sheet_132 : decode cX13_sheet 132 = .ok (.getfield 47, 3) := by decide +kernel
theorem dX13_sheet_135 : decode cX13_sheet 135 = .ok (.aload_n 0, 1) := by decide +kernel
theorem dX13_sheet_136 : decode cX13_sheet 136 = .ok (.getfield 374, 3) := by decide +kernel
theorem dX13_sheet_139 : decode cX13_sheet 139 = .ok (.aload_n 0, 1) := by decide +kernel
theorem dX13_sheet_140 : decode cX13_sheet 140 = .ok (.getfield 361, 3) := by decide +kernel
theorem dX13_sheet_143 : decode cX13_sheet 143 = .ok (.iastore, 1) := by decide +kernel
theorem dX13_sheet_144 : decode cX13_sheet 144 = .ok (.iconst 0, 1) := by decide +kernel
theorem dX13_sheet_145 : decode cX13_sheet 145 = .ok (.istore_n 1, 1) := by decide +kernel
theorem dX13_sheet_146 : decode cX13_sheet 146 = .ok (.iload_n 1, 1) := by decide +kernel
theorem dX13_sheet_147 : decode cX13_sheet 147 = .ok (.aload_n 0, 1) := by decide +kernel
theorem dX13_sheet_148 : decode cX13_sheet 148 = .ok (.getfield 361, 3) := by decide +kernel
theorem dX13_sheet_151 : decode cX13_sheet 151 = .ok (.if_icmp .ge 72, 3) := by decide +kernel
theorem dX13_sheet_154 : decode cX13_sheet 154 = .ok (.iconst 4, 1) := by decide +kernel
theorem dX13_sheet_155 : decode cX13_sheet 155 = .ok (.aload_n 0, 1) := by decide +kernel
theorem dX13_sheet_156 : decode cX13_sheet 156 = .ok (.getfield 374, 3) := by decide +kernel
theorem dX13_sheet_159 : decode cX13_sheet 159 = .ok (.imul, 1) := by decide +kernel
theorem dX13_sheet_160 : decode cX13_sheet 160 = .ok (.iload_n 1, 1) := by decide +kernel
theorem dX13_sheet_161 : decode cX13_sheet 161 = .ok (.iadd, 1) := by decide +kernel
theorem dX13_sheet_162 : decode cX13_sheet 162 = .ok (.istore_n 2, 1) := by decide +kernel
theorem dX13_sheet_163 : decode cX13_sheet 163 = .ok (.aload_n 0, 1) := by decide +kernel
theorem dX13_sheet_164 : decode cX13_sheet 164 = .ok (.getfield 53, 3) := by decide +kernel
theorem dX13_sheet_167 : decode cX13_sheet 167 = .ok (.iload_n 2, 1) := by decide +kernel
theorem dX13_sheet_168 : decode cX13_sheet 168 = .ok (.aload_n 0, 1) := by decide +kernel
theorem dX13_sheet_169 : decode cX13_sheet 169 = .ok (.getfield 32, 3) := by decide +kernel
theorem dX13_sheet_172 : decode cX13_sheet 172 = .ok (.iload_n 1, 1) := by decide +kernel
theorem dX13_sheet_173 : decode cX13_sheet 173 = .ok (.iaload, 1) := by decide +kernel
theorem dX13_sheet_174 : decode cX13_sheet 174 = .ok (.iastore, 1) := by decide +kernel
theorem dX13_sheet_175 : decode cX13_sheet 175 = .ok (.iconst 0, 1) := by decide +kernel
theorem dX13_sheet_176 : decode cX13_sheet 176 = .ok (.istore_n 3, 1) := by decide +kernel
theorem dX13_sheet_177 : decode cX13_sheet 177 = .ok (.iload_n 3, 1) := by decide +kernel
theorem dX13_sheet_178 : decode cX13_sheet 178 = .ok (.aload_n 0, 1) := by decide +kernel
theorem dX13_sheet_179 : decode cX13_sheet 179 = .ok (.getfield 32, 3) := by decide +kernel
theorem dX13_sheet_182 : decode cX13_sheet 182 = .ok (.iload_n 1, 1) := by decide +kernel
theorem dX13_sheet_183 : decode cX13_sheet 183 = .ok (.iaload, 1) := by decide +kernel
theorem dX13_sheet_184 : decode cX13_sheet 184 = .ok (.if_icmp .ge 33, 3) := by decide +kernel
theorem dX13_sheet_187 : decode cX13_sheet 187 = .ok (.aload_n 0, 1) := by decide +kernel
theorem dX13_sheet_188 : decode cX13_sheet 188 = .ok (.getfield 50, 3) := by decide +kernel
theorem dX13_sheet_191 : decode cX13_sheet 191 = .ok (.bipush 8, 2) := by decide +kernel
theorem dX13_sheet_193 : decode cX13_sheet 193 = .ok (.iload_n 2, 1) := by decide +kernel
theorem dX13_sheet_194 : decode cX13_sheet 194 = .ok (.imul, 1) := by decide +kernel
theorem dX13_sheet_195 : decode cX13_sheet 195 = .ok (.iload_n 3, 1) := by decide +kernel
theorem dX13_sheet_196 : decode cX13_sheet 196 = .ok (.iadd, 1) := by decide +kernel
theorem dX13_sheet_197 : decode cX13_sheet 197 = .ok (.aload_n 0, 1) := by decide +kernel
theorem dX13_sheet_198 : decode cX13_sheet 198 = .ok (.getfield 9, 3) := by decide +kernel
theorem dX13_sheet_201 : decode cX13_sheet 201 = .ok (.aload_n 0, 1) := by decide +kernel
theorem dX13_sheet_202 : decode cX13_sheet 202 = .ok (.getfield 29, 3) := by decide +kernel
theorem dX13_sheet_205 : decode cX13_sheet 205 = .ok (.iload_n 1, 1) := by decide +kernel
theorem dX13_sheet_206 : decode cX13_sheet 206 = .ok (.iaload, 1) := by decide +kernel
theorem dX13_sheet_207 : decode cX13_sheet 207 = .ok (.iload_n 3, 1) := by decide +kernel
theorem dX13_sheet_208 : decode cX13_sheet 208 = .ok (.iadd, 1) := by decide +kernel
theorem dX13_sheet_209 : decode cX13_sheet 209 = .ok (.baload, 1) := by decide +kernel
theorem dX13_sheet_210 : decode cX13_sheet 210 = .ok (.bastore, 1) := by decide +kernel
theorem dX13_sheet_211 : decode cX13_sheet 211 = .ok (.iinc 3 1, 3) := by decide +kernel
theorem dX13_sheet_214 : decode cX13_sheet 214 = .ok (.goto (-37), 3) := by decide +kernel
theorem dX13_sheet_217 : decode cX13_sheet 217 = .ok (.iinc 1 1, 3) := by decide +kernel
theorem dX13_sheet_220 : decode cX13_sheet 220 = .ok (.goto (-74), 3) := by decide +kernel
theorem dX13_sheet_223 : decode cX13_sheet 223 = .ok (.aload_n 0, 1) := by decide +kernel
theorem dX13_sheet_224 : decode cX13_sheet 224 = .ok (.iconst 0, 1) := by decide +kernel
theorem dX13_sheet_225 : decode cX13_sheet 225 = .ok (.putfield 252, 3) := by decide +kernel
theorem dX13_sheet_228 : decode cX13_sheet 228 = .ok (.aload_n 0, 1) := by decide +kernel
theorem dX13_sheet_229 : decode cX13_sheet 229 = .ok (.dup, 1) := by decide +kernel
theorem dX13_sheet_230 : decode cX13_sheet 230 = .ok (.getfield 374, 3) := by decide +kernel
theorem dX13_sheet_233 : decode cX13_sheet 233 = .ok (.iconst 1, 1) := by decide +kernel
theorem dX13_sheet_234 : decode cX13_sheet 234 = .ok (.iadd, 1) := by decide +kernel
theorem dX13_sheet_235 : decode cX13_sheet 235 = .ok (.putfield 374, 3) := by decide +kernel
theorem dX13_sheet_238 : decode cX13_sheet 238 = .ok (.aload_n 0, 1) := by decide +kernel
theorem dX13_sheet_239 : decode cX13_sheet 239 = .ok (.getfield 374, 3) := by decide +kernel
theorem dX13_sheet_242 : decode cX13_sheet 242 = .ok (.iconst 1, 1) := by decide +kernel
theorem dX13_sheet_243 : decode cX13_sheet 243 = .ok (.isub, 1) := by decide +kernel
theorem dX13_sheet_244 : decode cX13_sheet 244 = .ok (.ireturn, 1) := by decide +kernel
set_option maxRecDepth 20000 in
theorem ggX13_isVolume_X13_in : GoodIn wsX13_isVolume wsX13_in := goodIn_r _ [4] (by decide +kernel) (by decide +kernel)
set_option maxRecDepth 20000 in
theorem gX13_isVolume_X13_in : GoodIn wsX13_isVolume (va_wsS RX13 256 yX13_in wsX13_in) := goodIn_app (goodIn_of _ (by decide +kernel)) ggX13_isVolume_X13_in
theorem dX13_isVolume_0 : decode cX13_isVolume 0 = .ok (.iload_n 0, 1) := by decide +kernel
theorem dX13_isVolume_1 : decode cX13_isVolume 1 = .ok (.iconst 0, 1) := by decide +kernel
theorem dX13_isVolume_2 : decode cX13_isVolume 2 = .ok (.iconst 5, 1) := by decide +kernel
theorem dX13_isVolume_3 : decode cX13_isVolume 3 = .ok (.invokestatic 256, 3) := by decide +kernel
theorem dX13_isVolume_6 : decode cX13_isVolume 6 = .ok (.ireturn, 1) := by decide +kernel
set_option maxRecDepth 20000 in
theorem ggX13_force_X13_in : GoodIn wsX13_force wsX13_in := goodIn_r _ [11] (by decide +kernel) (by decide +kernel)
set_option maxRecDepth 20000 in
theorem gX13_force_X13_in : GoodIn wsX13_force (va_wsS RX13 256 yX13_in wsX13_in) := goodIn_app (goodIn_of _ (by decide +kernel)) ggX13_force_X13_in
set_option maxRecDepth 20000 in
theorem ggX13_force_X13_isVolume : GoodIn wsX13_force wsX13_isVolume := goodIn_r _ [14, 8, 9, 10, 11] (by decide +kernel) (by decide +kernel)
set_option maxRecDepth 20000 in
theorem gX13_force_X13_isVolume : GoodIn wsX13_force (va_wsS RX13 377 yX13_isVolume wsX13_isVolume) := goodIn_app (goodIn_of _ (by decide +kernel)) ggX13_force_X13_isVolume
theorem dX13_force_0 : decode cX13_force 0 = .ok (.iload_n 1, 1) := by decide +kernel
theorem dX13_force_1 : decode cX13_force 1 = .ok (.iconst 0, 1) := by decide +kernel
theorem dX13_force_2 : decode cX13_force 2 = .ok (.aload_n 0, 1) := by decide +kernel
theorem dX13_force_3 : decode cX13_force 3 = .ok (.getfield 374, 3) := by decide +kernel
theorem dX13_force_6 : decode cX13_force 6 = .ok (.iconst 1, 1) := by decide +kernel
theorem dX13_force_7 : decode cX13_force 7 = .ok (.isub, 1) := by decide +kernel
theorem dX13_force_8 : decode cX13_force 8 = .ok (.invokestatic 256, 3) := by decide +kernel
theorem dX13_force_11 : decode cX13_force 11 = .ok (.ifCond .eq 33, 3) := by decide +kernel
theorem dX13_force_14 : decode cX13_force 14 = .ok (.iload_n 2, 1) := by decide +kernel
theorem dX13_force_15 : decode cX13_force 15 = .ok (.iconst (-1), 1) := by decide +kernel
theorem dX13_force_16 : decode cX13_force 16 = .ok (.if_icmp .eq 19, 3) := by decide +kernel
theorem dX13_force_19 : decode cX13_force 19 = .ok (.iload_n 2, 1) := by decide +kernel
theorem dX13_force_20 : decode cX13_force 20 = .ok (.invokestatic 377, 3) := by decide +kernel
theorem dX13_force_23 : decode cX13_force 23 = .ok (.ifCond .eq 21, 3) := by decide +kernel
theorem dX13_force_26 : decode cX13_force 26 = .ok (.aload_n 0, 1) := by decide +kernel
theorem dX13_force_27 : decode cX13_force 27 = .ok (.getfield 68, 3) := by decide +kernel
theorem dX13_force_30 : decode cX13_force 30 = .ok (.iload_n 2, 1) := by decide +kernel
theorem dX13_force_31 : decode cX13_force 31 = .ok (.baload, 1) := by decide +kernel
theorem dX13_force_32 : decode cX13_force 32 = .ok (.ifCond .ne 12, 3) := by decide +kernel
theorem dX13_force_35 : decode cX13_force 35 = .ok (.aload_n 0, 1) := by decide +kernel
theorem dX13_force_36 : decode cX13_force 36 = .ok (.getfield 380, 3) := by decide +kernel
theorem dX13_force_39 : decode cX13_force 39 = .ok (.bipush 20, 2) := by decide +kernel
theorem dX13_force_41 : decode cX13_force 41 = .ok (.if_icmp .ne 5, 3) := by decide +kernel
theorem dX13_force_44 : decode cX13_force 44 = .ok (.iconst (-1), 1) := by decide +kernel
theorem dX13_force_45 : decode cX13_force 45 = .ok (.ireturn, 1) := by decide +kernel
theorem dX13_force_46 : decode cX13_force 46 = .ok (.aload_n 0, 1) := by decide +kernel
theorem dX13_force_47 : decode cX13_force 47 = .ok (.getfield 56, 3) := by decide +kernel
theorem dX13_force_50 : decode cX13_force 50 = .ok (.aload_n 0, 1) := by decide +kernel
theorem dX13_force_51 : decode cX13_force 51 = .ok (.getfield 380, 3) := by decide +kernel
theorem dX13_force_54 : decode cX13_force 54 = .ok (.iload_n 1, 1) := by decide +kernel
theorem dX13_force_55 : decode cX13_force 55 = .ok (.iastore, 1) := by decide +kernel
theorem dX13_force_56 : decode cX13_force 56 = .ok (.aload_n 0, 1) := by decide +kernel
theorem dX13_force_57 : decode cX13_force 57 = .ok (.getfield 59, 3) := by decide +kernel
theorem dX13_force_60 : decode cX13_force 60 = .ok (.aload_n 0, 1) := by decide +kernel
theorem dX13_force_61 : decode cX13_force 61 = .ok (.getfield 380, 3) := by decide +kernel
theorem dX13_force_64 : decode cX13_force 64 = .ok (.iload_n 2, 1) := by decide +kernel
theorem dX13_force_65 : decode cX13_force 65 = .ok (.iastore, 1) := by decide +kernel
theorem dX13_force_66 : decode cX13_force 66 = .ok (.aload_n 0, 1) := by decide +kernel
theorem dX13_force_67 : decode cX13_force 67 = .ok (.getfield 62, 3) := by decide +kernel
theorem dX13_force_70 : decode cX13_force 70 = .ok (.aload_n 0, 1) := by decide +kernel
theorem dX13_force_71 : decode cX13_force 71 = .ok (.getfield 380, 3) := by decide +kernel
theorem dX13_force_74 : decode cX13_force 74 = .ok (.aload_n 0, 1) := by decide +kernel
theorem dX13_force_75 : decode cX13_force 75 = .ok (.getfield 383, 3) := by decide +kernel
theorem dX13_force_78 : decode cX13_force 78 = .ok (.iastore, 1) := by decide +kernel
theorem dX13_force_79 : decode cX13_force 79 = .ok (.aload_n 0, 1) := by decide +kernel
theorem dX13_force_80 : decode cX13_force 80 = .ok (.dup, 1) := by decide +kernel
theorem dX13_force_81 : decode cX13_force 81 = .ok (.getfield 380, 3) := by decide +kernel
theorem dX13_force_84 : decode cX13_force 84 = .ok (.iconst 1, 1) := by decide +kernel
theorem dX13_force_85 : decode cX13_force 85 = .ok (.iadd, 1) := by decide +kernel
theorem dX13_force_86 : decode cX13_force 86 = .ok (.putfield 380, 3) := by decide +kernel
theorem dX13_force_89 : decode cX13_force 89 = .ok (.aload_n 0, 1) := by decide +kernel
theorem dX13_force_90 : decode cX13_force 90 = .ok (.getfield 380, 3) := by decide +kernel
theorem dX13_force_93 : decode cX13_force 93 = .ok (.ireturn, 1) := by decide +kernel
theorem dX13_inForce_0 : decode cX13_inForce 0 = .ok (.aload_n 0, 1) := by decide +kernel
theorem dX13_inForce_1 : decode cX13_inForce 1 = .ok (.getfield 380, 3) := by decide +kernel
theorem dX13_inForce_4 : decode cX13_inForce 4 = .ok (.iconst 1, 1) := by decide +kernel
theorem dX13_inForce_5 : decode cX13_inForce 5 = .ok (.isub, 1) := by decide +kernel
theorem dX13_inForce_6 : decode cX13_inForce 6 = .ok (.istore 4, 2) := by decide +kernel
theorem dX13_inForce_8 : decode cX13_inForce 8 = .ok (.iload 4, 2) := by decide +kernel
theorem dX13_inForce_10 : decode cX13_inForce 10 = .ok (.ifCond .lt 74, 3) := by decide +kernel
theorem dX13_inForce_13 : decode cX13_inForce 13 = .ok (.aload_n 0, 1) := by decide +kernel
theorem dX13_inForce_14 : decode cX13_inForce 14 = .ok (.getfield 62, 3) := by decide +kernel
theorem dX13_inForce_17 : decode cX13_inForce 17 = .ok (.iload 4, 2) := by decide +kernel
theorem dX13_inForce_19 : decode cX13_inForce 19 = .ok (.iaload, 1) := by decide +kernel
theorem dX13_inForce_20 : decode cX13_inForce 20 = .ok (.iload_n 3, 1) := by decide +kernel
theorem dX13_inForce_21 : decode cX13_inForce 21 = .ok (.if_icmp .gt 57, 3) := by decide +kernel
theorem dX13_inForce_24 : decode cX13_inForce 24 = .ok (.aload_n 0, 1) := by decide +kernel
theorem dX13_inForce_25 : decode cX13_inForce 25 = .ok (.getfield 59, 3) := by decide +kernel
theorem dX13_inForce_28 : decode cX13_inForce 28 = .ok (.iload 4, 2) := by decide +kernel
theorem dX13_inForce_30 : decode cX13_inForce 30 = .ok (.iaload, 1) := by decide +kernel
theorem dX13_inForce_31 : decode cX13_inForce 31 = .ok (.iconst (-1), 1) := by decide +kernel
theorem dX13_inForce_32 : decode cX13_inForce 32 = .ok (.if_icmp .eq 17, 3) := by decide +kernel
theorem dX13_inForce_35 : decode cX13_inForce 35 = .ok (.aload_n 0, 1) := by decide +kernel
theorem dX13_inForce_36 : decode cX13_inForce 36 = .ok (.getfield 59, 3) := by decide +kernel
theorem dX13_inForce_39 : decode cX13_inForce 39 = .ok (.iload 4, 2) := by decide +kernel
theorem dX13_inForce_41 : decode cX13_inForce 41 = .ok (.iaload, 1) := by decide +kernel
theorem dX13_inForce_42 : decode cX13_inForce 42 = .ok (.iload_n 2, 1) := by decide +kernel
theorem dX13_inForce_43 : decode cX13_inForce 43 = .ok (.if_icmp .eq 6, 3) := by decide +kernel
theorem dX13_inForce_46 : decode cX13_inForce 46 = .ok (.goto 32, 3) := by decide +kernel
theorem dX13_inForce_49 : decode cX13_inForce 49 = .ok (.aload_n 0, 1) := by decide +kernel
theorem dX13_inForce_50 : decode cX13_inForce 50 = .ok (.getfield 41, 3) := by decide +kernel
theorem dX13_inForce_53 : decode cX13_inForce 53 = .ok (.bipush 14, 2) := by decide +kernel
theorem dX13_inForce_55 : decode cX13_inForce 55 = .ok (.aload_n 0, 1) := by decide +kernel
theorem dX13_inForce_56 : decode cX13_inForce 56 = .ok (.getfield 56, 3) := by decide +kernel
theorem dX13_inForce_59 : decode cX13_inForce 59 = .ok (.iload 4, 2) := by decide +kernel
theorem dX13_inForce_61 : decode cX13_inForce 61 = .ok (.iaload, 1) := by decide +kernel
theorem dX13_inForce_62 : decode cX13_inForce 62 = .ok (.imul, 1) := by decide +kernel
theorem dX13_inForce_63 : decode cX13_inForce 63 = .ok (.iload_n 1, 1) := by decide +kernel
theorem dX13_inForce_64 : decode cX13_inForce 64 = .ok (.iadd, 1) := by decide +kernel
theorem dX13_inForce_65 : decode cX13_inForce 65 = .ok (.iaload, 1) := by decide +kernel
theorem dX13_inForce_66 : decode cX13_inForce 66 = .ok (.iconst (-1), 1) := by decide +kernel
theorem dX13_inForce_67 : decode cX13_inForce 67 = .ok (.if_icmp .eq 11, 3) := by decide +kernel
theorem dX13_inForce_70 : decode cX13_inForce 70 = .ok (.aload_n 0, 1) := by decide +kernel
theorem dX13_inForce_71 : decode cX13_inForce 71 = .ok (.getfield 56, 3) := by decide +kernel
theorem dX13_inForce_74 : decode cX13_inForce 74 = .ok (.iload 4, 2) := by decide +kernel
theorem dX13_inForce_76 : decode cX13_inForce 76 = .ok (.iaload, 1) := by decide +kernel
theorem dX13_inForce_77 : decode cX13_inForce 77 = .ok (.ireturn, 1) := by decide +kernel
theorem dX13_inForce_78 : decode cX13_inForce 78 = .ok (.iinc 4 (-1), 3) := by decide +kernel
theorem dX13_inForce_81 : decode cX13_inForce 81 = .ok (.goto (-73), 3) := by decide +kernel
theorem dX13_inForce_84 : decode cX13_inForce 84 = .ok (.iconst (-1), 1) := by decide +kernel
theorem dX13_inForce_85 : decode cX13_inForce 85 = .ok (.ireturn, 1) := by decide +kernel
set_option maxRecDepth 20000 in
theorem ggX13_rule_X13_in : GoodIn wsX13_rule wsX13_in := goodIn_r _ [5] (by decide +kernel) (by decide +kernel)
set_option maxRecDepth 20000 in
theorem gX13_rule_X13_in : GoodIn wsX13_rule (va_wsS RX13 256 yX13_in wsX13_in) := goodIn_app (goodIn_of _ (by decide +kernel)) ggX13_rule_X13_in
set_option maxRecDepth 20000 in
theorem ggX13_rule_X13_inForce : GoodIn wsX13_rule wsX13_inForce := goodIn_r _ [9, 10, 11, 12, 13, 14, 15, 16, 17, 18, 19, 20, 21, 22, 23, 24, 25, 26, 27, 28, 29, 30, 31, 32, 33, 34, 35, 36, 37, 38, 39, 40, 41, 42, 43, 44, 45, 46, 47, 48, 49, 50, 51, 52, 53, 54, 55, 56, 57, 58, 59, 60, 61, 62, 63, 64, 65, 66, 67, 68, 69, 70, 71, 72, 73, 74, 75, 76, 77, 78, 79, 80, 81, 82, 83, 84, 85, 86, 87, 88, 89, 90, 91, 92, 93, 94, 95, 96, 97, 98, 99, 100, 101, 102, 103, 104, 105, 106, 107, 108, 109, 110, 111, 112, 113, 114, 115, 116, 117, 118] (by decide +kernel) (by decide +kernel)
set_option maxRecDepth 20000 in
theorem gX13_rule_X13_inForce : GoodIn wsX13_rule (wsV RX13 386 RX13 yX13_inForce wsX13_inForce) := goodIn_app (goodIn_of _ (by decide +kernel)) ggX13_rule_X13_inForce
theorem dX13_rule_0 : decode cX13_rule 0 = .ok (.iload_n 1, 1) := by decide +kernel
theorem dX13_rule_1 : decode cX13_rule 1 = .ok (.iconst 0, 1) := by decide +kernel
theorem dX13_rule_2 : decode cX13_rule 2 = .ok (.iconst 4, 1) := by decide +kernel
theorem dX13_rule_3 : decode cX13_rule 3 = .ok (.invokestatic 256, 3) := by decide +kernel
theorem dX13_rule_6 : decode cX13_rule 6 = .ok (.ifCond .eq 7, 3) := by decide +kernel
theorem dX13_rule_9 : decode cX13_rule 9 = .ok (.iload_n 1, 1) := by decide +kernel
theorem dX13_rule_10 : decode cX13_rule 10 = .ok (.goto 44, 3) := by decide +kernel
theorem dX13_rule_13 : decode cX13_rule 13 = .ok (.iload_n 1, 1) := by decide +kernel
theorem dX13_rule_14 : decode cX13_rule 14 = .ok (.bipush 10, 2) := by decide +kernel
theorem dX13_rule_16 : decode cX13_rule 16 = .ok (.if_icmp .lt 37, 3) := by decide +kernel
theorem dX13_rule_19 : decode cX13_rule 19 = .ok (.iload_n 1, 1) := by decide +kernel
theorem dX13_rule_20 : decode cX13_rule 20 = .ok (.bipush 10, 2) := by decide +kernel
theorem dX13_rule_22 : decode cX13_rule 22 = .ok (.idiv, 1) := by decide +kernel
theorem dX13_rule_23 : decode cX13_rule 23 = .ok (.iconst 3, 1) := by decide +kernel
theorem dX13_rule_24 : decode cX13_rule 24 = .ok (.if_icmp .gt 29, 3) := by decide +kernel
theorem dX13_rule_27 : decode cX13_rule 27 = .ok (.iload_n 1, 1) := by decide +kernel
theorem dX13_rule_28 : decode cX13_rule 28 = .ok (.bipush 10, 2) := by decide +kernel
theorem dX13_rule_30 : decode cX13_rule 30 = .ok (.irem, 1) := by decide +kernel
theorem dX13_rule_31 : decode cX13_rule 31 = .ok (.iconst 2, 1) := by decide +kernel
theorem dX13_rule_32 : decode cX13_rule 32 = .ok (.if_icmp .gt 21, 3) := by decide +kernel
theorem dX13_rule_35 : decode cX13_rule 35 = .ok (.iconst 5, 1) := by decide +kernel
theorem dX13_rule_36 : decode cX13_rule 36 = .ok (.iconst 3, 1) := by decide +kernel
theorem dX13_rule_37 : decode cX13_rule 37 = .ok (.iload_n 1, 1) := by decide +kernel
theorem dX13_rule_38 : decode cX13_rule 38 = .ok (.bipush 10, 2) := by decide +kernel
theorem dX13_rule_40 : decode cX13_rule 40 = .ok (.idiv, 1) := by decide +kernel
theorem dX13_rule_41 : decode cX13_rule 41 = .ok (.iconst 1, 1) := by decide +kernel
theorem dX13_rule_42 : decode cX13_rule 42 = .ok (.isub, 1) := by decide +kernel
theorem dX13_rule_43 : decode cX13_rule 43 = .ok (.imul, 1) := by decide +kernel
theorem dX13_rule_44 : decode cX13_rule 44 = .ok (.iadd, 1) := by decide +kernel
theorem dX13_rule_45 : decode cX13_rule 45 = .ok (.iload_n 1, 1) := by decide +kernel
theorem dX13_rule_46 : decode cX13_rule 46 = .ok (.bipush 10, 2) := by decide +kernel
theorem dX13_rule_48 : decode cX13_rule 48 = .ok (.irem, 1) := by decide +kernel
theorem dX13_rule_49 : decode cX13_rule 49 = .ok (.iadd, 1) := by decide +kernel
theorem dX13_rule_50 : decode cX13_rule 50 = .ok (.goto 4, 3) := by decide +kernel
theorem dX13_rule_53 : decode cX13_rule 53 = .ok (.iconst (-1), 1) := by decide +kernel
theorem dX13_rule_54 : decode cX13_rule 54 = .ok (.istore 4, 2) := by decide +kernel
theorem dX13_rule_56 : decode cX13_rule 56 = .ok (.iload 4, 2) := by decide +kernel
theorem dX13_rule_58 : decode cX13_rule 58 = .ok (.iconst (-1), 1) := by decide +kernel
theorem dX13_rule_59 : decode cX13_rule 59 = .ok (.if_icmp .eq 36, 3) := by decide +kernel
theorem dX13_rule_62 : decode cX13_rule 62 = .ok (.iload_n 2, 1) := by decide +kernel
theorem dX13_rule_63 : decode cX13_rule 63 = .ok (.iconst 0, 1) := by decide +kernel
theorem dX13_rule_64 : decode cX13_rule 64 = .ok (.bipush 6, 2) := by decide +kernel
theorem dX13_rule_66 : decode cX13_rule 66 = .ok (.invokestatic 256, 3) := by decide +kernel
theorem dX13_rule_69 : decode cX13_rule 69 = .ok (.ifCond .eq 26, 3) := by decide +kernel
theorem dX13_rule_72 : decode cX13_rule 72 = .ok (.iload_n 3, 1) := by decide +kernel
theorem dX13_rule_73 : decode cX13_rule 73 = .ok (.iconst 0, 1) := by decide +kernel
theorem dX13_rule_74 : decode cX13_rule 74 = .ok (.aload_n 0, 1) := by decide +kernel
theorem dX13_rule_75 : decode cX13_rule 75 = .ok (.getfield 383, 3) := by decide +kernel
theorem dX13_rule_78 : decode cX13_rule 78 = .ok (.invokestatic 256, 3) := by decide +kernel
theorem dX13_rule_81 : decode cX13_rule 81 = .ok (.ifCond .eq 14, 3) := by decide +kernel
theorem dX13_rule_84 : decode cX13_rule 84 = .ok (.aload_n 0, 1) := by decide +kernel
theorem dX13_rule_85 : decode cX13_rule 85 = .ok (.iload 4, 2) := by decide +kernel
theorem dX13_rule_87 : decode cX13_rule 87 = .ok (.iload_n 2, 1) := by decide +kernel
theorem dX13_rule_88 : decode cX13_rule 88 = .ok (.iload_n 3, 1) := by decide +kernel
theorem dX13_rule_89 : decode cX13_rule 89 = .ok (.invokevirtual 386, 3) := by decide +kernel
theorem dX13_rule_92 : decode cX13_rule 92 = .ok (.goto 4, 3) := by decide +kernel
theorem dX13_rule_95 : decode cX13_rule 95 = .ok (.iconst (-1), 1) := by decide +kernel
theorem dX13_rule_96 : decode cX13_rule 96 = .ok (.ireturn, 1) := by decide +kernel
set_option maxRecDepth 20000 in
theorem ggX13_reckoned_X13_of : GoodIn wsX13_reckoned wsX13_of := goodIn_r _ [10, 11, 12, 9, 13, 14, 15, 16, 17] (by decide +kernel) (by decide +kernel)
set_option maxRecDepth 20000 in
theorem gX13_reckoned_X13_of : GoodIn wsX13_reckoned (va_wsS RX13 390 yX13_of wsX13_of) := goodIn_app (goodIn_of _ (by decide +kernel)) ggX13_reckoned_X13_of
theorem dX13_reckoned_0 : decode cX13_reckoned 0 = .ok (.iconst 0, 1) := by decide +kernel
theorem dX13_reckoned_1 : decode cX13_reckoned 1 = .ok (.istore_n 3, 1) := by decide +kernel
theorem dX13_reckoned_2 : decode cX13_reckoned 2 = .ok (.sipush 600, 3) := by decide +kernel
theorem dX13_reckoned_5 : decode cX13_reckoned 5 = .ok (.iload_n 1, 1) := by decide +kernel
theorem dX13_reckoned_6 : decode cX13_reckoned 6 = .ok (.imul, 1) := by decide +kernel
theorem dX13_reckoned_7 : decode cX13_reckoned 7 = .ok (.aload_n 0, 1) := by decide +kernel
theorem dX13_reckoned_8 : decode cX13_reckoned 8 = .ok (.getfield 44, 3) := by decide +kernel
theorem dX13_reckoned_11 : decode cX13_reckoned 11 = .ok (.bipush 14, 2) := by decide +kernel
theorem dX13_reckoned_13 : decode cX13_reckoned 13 = .ok (.iload_n 1, 1) := by decide +kernel
theorem dX13_reckoned_14 : decode cX13_reckoned 14 = .ok (.imul, 1) := by decide +kernel
theorem dX13_reckoned_15 : decode cX13_reckoned 15 = .ok (.iload_n 2, 1) := by decide +kernel
theorem dX13_reckoned_16 : decode cX13_reckoned 16 = .ok (.iadd, 1) := by decide +kernel
theorem dX13_reckoned_17 : decode cX13_reckoned 17 = .ok (.iaload, 1) := by decide +kernel
theorem dX13_reckoned_18 : decode cX13_reckoned 18 = .ok (.iadd, 1) := by decide +kernel
theorem dX13_reckoned_19 : decode cX13_reckoned 19 = .ok (.istore 4, 2) := by decide +kernel
theorem dX13_reckoned_21 : decode cX13_reckoned 21 = .ok (.sipush 600, 3) := by decide +kernel
theorem dX13_reckoned_24 : decode cX13_reckoned 24 = .ok (.iload_n 1, 1) := by decide +kernel
theorem dX13_reckoned_25 : decode cX13_reckoned 25 = .ok (.imul, 1) := by decide +kernel
theorem dX13_reckoned_26 : decode cX13_reckoned 26 = .ok (.aload_n 0, 1) := by decide +kernel
theorem dX13_reckoned_27 : decode cX13_reckoned 27 = .ok (.getfield 41, 3) := by decide +kernel
theorem dX13_reckoned_30 : decode cX13_reckoned 30 = .ok (.bipush 14, 2) := by decide +kernel
theorem dX13_reckoned_32 : decode cX13_reckoned 32 = .ok (.iload_n 1, 1) := by decide +kernel
theorem dX13_reckoned_33 : decode cX13_reckoned 33 = .ok (.imul, 1) := by decide +kernel
theorem dX13_reckoned_34 : decode cX13_reckoned 34 = .ok (.iload_n 2, 1) := by decide +kernel
theorem dX13_reckoned_35 : decode cX13_reckoned 35 = .ok (.iadd, 1) := by decide +kernel
theorem dX13_reckoned_36 : decode cX13_reckoned 36 = .ok (.iaload, 1) := by decide +kernel
theorem dX13_reckoned_37 : decode cX13_reckoned 37 = .ok (.iadd, 1) := by decide +kernel
theorem dX13_reckoned_38 : decode cX13_reckoned 38 = .ok (.istore 5, 2) := by decide +kernel
theorem dX13_reckoned_40 : decode cX13_reckoned 40 = .ok (.iload 5, 2) := by decide +kernel
theorem dX13_reckoned_42 : decode cX13_reckoned 42 = .ok (.iload 4, 2) := by decide +kernel
theorem dX13_reckoned_44 : decode cX13_reckoned 44 = .ok (.if_icmp .ge 121, 3) := by decide +kernel
theorem dX13_reckoned_47 : decode cX13_reckoned 47 = .ok (.aload_n 0, 1) := by decide +kernel
theorem dX13_reckoned_48 : decode cX13_reckoned 48 = .ok (.getfield 35, 3) := by decide +kernel
theorem dX13_reckoned_51 : decode cX13_reckoned 51 = .ok (.iload 5, 2) := by decide +kernel
theorem dX13_reckoned_53 : decode cX13_reckoned 53 = .ok (.iaload, 1) := by decide +kernel
theorem dX13_reckoned_54 : decode cX13_reckoned 54 = .ok (.istore 6, 2) := by decide +kernel
theorem dX13_reckoned_56 : decode cX13_reckoned 56 = .ok (.iload 6, 2) := by decide +kernel
theorem dX13_reckoned_58 : decode cX13_reckoned 58 = .ok (.iconst 1, 1) := by decide +kernel
theorem dX13_reckoned_59 : decode cX13_reckoned 59 = .ok (.if_icmp .gt 42, 3) := by decide +kernel
theorem dX13_reckoned_62 : decode cX13_reckoned 62 = .ok (.aload_n 0, 1) := by decide +kernel
theorem dX13_reckoned_63 : decode cX13_reckoned 63 = .ok (.getfield 198, 3) := by decide +kernel
theorem dX13_reckoned_66 : decode cX13_reckoned 66 = .ok (.iload_n 3, 1) := by decide +kernel
theorem dX13_reckoned_67 : decode cX13_reckoned 67 = .ok (.iload 6, 2) := by decide +kernel
theorem dX13_reckoned_69 : decode cX13_reckoned 69 = .ok (.ifCond .ne 13, 3) := by decide +kernel
theorem dX13_reckoned_72 : decode cX13_reckoned 72 = .ok (.aload_n 0, 1) := by decide +kernel
theorem dX13_reckoned_73 : decode cX13_reckoned 73 = .ok (.getfield 38, 3) := by decide +kernel
theorem dX13_reckoned_76 : decode cX13_reckoned 76 = .ok (.iload 5, 2) := by decide +kernel
theorem dX13_reckoned_78 : decode cX13_reckoned 78 = .ok (.iaload, 1) := by decide +kernel
theorem dX13_reckoned_79 : decode cX13_reckoned 79 = .ok (.goto 15, 3) := by decide +kernel
theorem dX13_reckoned_82 : decode cX13_reckoned 82 = .ok (.aload_n 0, 1) := by decide +kernel
theorem dX13_reckoned_83 : decode cX13_reckoned 83 = .ok (.getfield 195, 3) := by decide +kernel
theorem dX13_reckoned_86 : decode cX13_reckoned 86 = .ok (.aload_n 0, 1) := by decide +kernel
theorem dX13_reckoned_87 : decode cX13_reckoned 87 = .ok (.getfield 38, 3) := by decide +kernel
theorem dX13_reckoned_90 : decode cX13_reckoned 90 = .ok (.iload 5, 2) := by decide +kernel
theorem dX13_reckoned_92 : decode cX13_reckoned 92 = .ok (.iaload, 1) := by decide +kernel
theorem dX13_reckoned_93 : decode cX13_reckoned 93 = .ok (.iaload, 1) := by decide +kernel
theorem dX13_reckoned_94 : decode cX13_reckoned 94 = .ok (.iastore, 1) := by decide +kernel
theorem dX13_reckoned_95 : decode cX13_reckoned 95 = .ok (.iinc 3 1, 3) := by decide +kernel
theorem dX13_reckoned_98 : decode cX13_reckoned 98 = .ok (.goto 61, 3) := by decide +kernel
theorem dX13_reckoned_101 : decode cX13_reckoned 101 = .ok (.iload 6, 2) := by decide +kernel
theorem dX13_reckoned_103 : decode cX13_reckoned 103 = .ok (.bipush 11, 2) := by decide +kernel
theorem dX13_reckoned_105 : decode cX13_reckoned 105 = .ok (.if_icmp .ne 24, 3) := by decide +kernel
theorem dX13_reckoned_108 : decode cX13_reckoned 108 = .ok (.aload_n 0, 1) := by decide +kernel
theorem dX13_reckoned_109 : decode cX13_reckoned 109 = .ok (.getfield 198, 3) := by decide +kernel
theorem dX13_reckoned_112 : decode cX13_reckoned 112 = .ok (.iload_n 3, 1) := by decide +kernel
theorem dX13_reckoned_113 : decode cX13_reckoned 113 = .ok (.iconst 1, 1) := by decide +kernel
theorem dX13_reckoned_114 : decode cX13_reckoned 114 = .ok (.isub, 1) := by decide +kernel
theorem dX13_reckoned_115 : decode cX13_reckoned 115 = .ok (.iconst 1, 1) := by decide +kernel
theorem dX13_reckoned_116 : decode cX13_reckoned 116 = .ok (.aload_n 0, 1) := by decide +kernel
theorem dX13_reckoned_117 : decode cX13_reckoned 117 = .ok (.getfield 198, 3) := by decide +kernel
theorem dX13_reckoned_120 : decode cX13_reckoned 120 = .ok (.iload_n 3, 1) := by decide +kernel
theorem dX13_reckoned_121 : decode cX13_reckoned 121 = .ok (.iconst 1, 1) := by decide +kernel
theorem dX13_reckoned_122 : decode cX13_reckoned 122 = .ok (.isub, 1) := by decide +kernel
theorem dX13_reckoned_123 : decode cX13_reckoned 123 = .ok (.iaload, 1) := by decide +kernel
theorem dX13_reckoned_124 : decode cX13_reckoned 124 = .ok (.isub, 1) := by decide +kernel
theorem dX13_reckoned_125 : decode cX13_reckoned 125 = .ok (.iastore, 1) := by decide +kernel
theorem dX13_reckoned_126 : decode cX13_reckoned 126 = .ok (.goto 33, 3) := by decide +kernel
theorem dX13_reckoned_129 : decode cX13_reckoned 129 = .ok (.iinc 3 (-1), 3) := by decide +kernel
theorem dX13_reckoned_132 : decode cX13_reckoned 132 = .ok (.aload_n 0, 1) := by decide +kernel
theorem dX13_reckoned_133 : decode cX13_reckoned 133 = .ok (.getfield 198, 3) := by decide +kernel
theorem dX13_reckoned_136 : decode cX13_reckoned 136 = .ok (.iload_n 3, 1) := by decide +kernel
theorem dX13_reckoned_137 : decode cX13_reckoned 137 = .ok (.iconst 1, 1) := by decide +kernel
theorem dX13_reckoned_138 : decode cX13_reckoned 138 = .ok (.isub, 1) := by decide +kernel
theorem dX13_reckoned_139 : decode cX13_reckoned 139 = .ok (.iload 6, 2) := by decide +kernel
theorem dX13_reckoned_141 : decode cX13_reckoned 141 = .ok (.aload_n 0, 1) := by decide +kernel
theorem dX13_reckoned_142 : decode cX13_reckoned 142 = .ok (.getfield 198, 3) := by decide +kernel
theorem dX13_reckoned_145 : decode cX13_reckoned 145 = .ok (.iload_n 3, 1) := by decide +kernel
theorem dX13_reckoned_146 : decode cX13_reckoned 146 = .ok (.iconst 1, 1) := by decide +kernel
theorem dX13_reckoned_147 : decode cX13_reckoned 147 = .ok (.isub, 1) := by decide +kernel
theorem dX13_reckoned_148 : decode cX13_reckoned 148 = .ok (.iaload, 1) := by decide +kernel
theorem dX13_reckoned_149 : decode cX13_reckoned 149 = .ok (.aload_n 0, 1) := by decide +kernel
theorem dX13_reckoned_150 : decode cX13_reckoned 150 = .ok (.getfield 198, 3) := by decide +kernel
theorem dX13_reckoned_153 : decode cX13_reckoned 153 = .ok (.iload_n 3, 1) := by decide +kernel
theorem dX13_reckoned_154 : decode cX13_reckoned 154 = .ok (.iaload, 1) := by decide +kernel
theorem dX13_reckoned_155 : decode cX13_reckoned 155 = .ok (.invokestatic 390, 3) := by decide +kernel
theorem dX13_reckoned_158 : decode cX13_reckoned 158 = .ok (.iastore, 1) := by decide +kernel
theorem dX13_reckoned_159 : decode cX13_reckoned 159 = .ok (.iinc 5 1, 3) := by decide +kernel
theorem dX13_reckoned_162 : decode cX13_reckoned 162 = .ok (.goto (-122), 3) := by decide +kernel
theorem dX13_reckoned_165 : decode cX13_reckoned 165 = .ok (.aload_n 0, 1) := by decide +kernel
theorem dX13_reckoned_166 : decode cX13_reckoned 166 = .ok (.getfield 198, 3) := by decide +kernel
theorem dX13_reckoned_169 : decode cX13_reckoned 169 = .ok (.iconst 0, 1) := by decide +kernel
theorem dX13_reckoned_170 : decode cX13_reckoned 170 = .ok (.iaload, 1) := by decide +kernel
theorem dX13_reckoned_171 : decode cX13_reckoned 171 = .ok (.ireturn, 1) := by decide +kernel
set_option maxRecDepth 20000 in
theorem ggX13_of_X13_near : GoodIn wsX13_of wsX13_near := goodIn_r _ [4, 5, 6, 7, 8] (by decide +kernel) (by decide +kernel)
set_option maxRecDepth 20000 in
theorem gX13_of_X13_near : GoodIn wsX13_of (va_wsS RX13 393 yX13_near wsX13_near) := goodIn_app (goodIn_of _ (by decide +kernel)) ggX13_of_X13_near
theorem dX13_of_0 : decode cX13_of 0 = .ok (.iload_n 0, 1) := by decide +kernel
theorem dX13_of_1 : decode cX13_of 1 = .ok (.tableswitch 132 2 9 #[47, 56, 65, 74, 86, 97, 108, 119], 47) := by decide +kernel
theorem dX13_of_48 : decode cX13_of 48 = .ok (.iload_n 1, 1) := by decide +kernel
theorem dX13_of_49 : decode cX13_of 49 = .ok (.i2l, 1) := by decide +kernel
theorem dX13_of_50 : decode cX13_of 50 = .ok (.iload_n 2, 1) := by decide +kernel
theorem dX13_of_51 : decode cX13_of 51 = .ok (.i2l, 1) := by decide +kernel
theorem dX13_of_52 : decode cX13_of 52 = .ok (.ladd, 1) := by decide +kernel
theorem dX13_of_53 : decode cX13_of 53 = .ok (.invokestatic 393, 3) := by decide +kernel
theorem dX13_of_56 : decode cX13_of 56 = .ok (.ireturn, 1) := by decide +kernel
theorem dX13_of_57 : decode cX13_of 57 = .ok (.iload_n 1, 1) := by decide +kernel
theorem dX13_of_58 : decode cX13_of 58 = .ok (.i2l, 1) := by decide +kernel
theorem dX13_of_59 : decode cX13_of 59 = .ok (.iload_n 2, 1) := by decide +kernel
theorem dX13_of_60 : decode cX13_of 60 = .ok (.i2l, 1) := by decide +kernel
theorem dX13_of_61 : decode cX13_of 61 = .ok (.lsub, 1) := by decide +kernel
theorem dX13_of_62 : decode cX13_of 62 = .ok (.invokestatic 393, 3) := by decide +kernel
theorem dX13_of_65 : decode cX13_of 65 = .ok (.ireturn, 1) := by decide +kernel
theorem dX13_of_66 : decode cX13_of 66 = .ok (.iload_n 1, 1) := by decide +kernel
theorem dX13_of_67 : decode cX13_of 67 = .ok (.i2l, 1) := by decide +kernel
theorem dX13_of_68 : decode cX13_of 68 = .ok (.iload_n 2, 1) := by decide +kernel
theorem dX13_of_69 : decode cX13_of 69 = .ok (.i2l, 1) := by decide +kernel
theorem dX13_of_70 : decode cX13_of 70 = .ok (.lmul, 1) := by decide +kernel
theorem dX13_of_71 : decode cX13_of 71 = .ok (.invokestatic 393, 3) := by decide +kernel
theorem dX13_of_74 : decode cX13_of 74 = .ok (.ireturn, 1) := by decide +kernel
theorem dX13_of_75 : decode cX13_of 75 = .ok (.iload_n 2, 1) := by decide +kernel
theorem dX13_of_76 : decode cX13_of 76 = .ok (.ifCond .ne 7, 3) := by decide +kernel
theorem dX13_of_79 : decode cX13_of 79 = .ok (.iconst 0, 1) := by decide +kernel
theorem dX13_of_80 : decode cX13_of 80 = .ok (.goto 6, 3) := by decide +kernel
theorem dX13_of_83 : decode cX13_of 83 = .ok (.iload_n 1, 1) := by decide +kernel
theorem dX13_of_84 : decode cX13_of 84 = .ok (.iload_n 2, 1) := by decide +kernel
theorem dX13_of_85 : decode cX13_of 85 = .ok (.idiv, 1) := by decide +kernel
theorem dX13_of_86 : decode cX13_of 86 = .ok (.ireturn, 1) := by decide +kernel
theorem dX13_of_87 : decode cX13_of 87 = .ok (.iload_n 1, 1) := by decide +kernel
theorem dX13_of_88 : decode cX13_of 88 = .ok (.iload_n 2, 1) := by decide +kernel
theorem dX13_of_89 : decode cX13_of 89 = .ok (.if_icmp .ge 7, 3) := by decide +kernel
theorem dX13_of_92 : decode cX13_of 92 = .ok (.iconst 1, 1) := by decide +kernel
theorem dX13_of_93 : decode cX13_of 93 = .ok (.goto 4, 3) := by decide +kernel
theorem dX13_of_96 : decode cX13_of 96 = .ok (.iconst 0, 1) := by decide +kernel
theorem dX13_of_97 : decode cX13_of 97 = .ok (.ireturn, 1) := by decide +kernel
theorem dX13_of_98 : decode cX13_of 98 = .ok (.iload_n 1, 1) := by decide +kernel
theorem dX13_of_99 : decode cX13_of 99 = .ok (.iload_n 2, 1) := by decide +kernel
theorem dX13_of_100 : decode cX13_of 100 = .ok (.if_icmp .le 7, 3) := by decide +kernel
theorem dX13_of_103 : decode cX13_of 103 = .ok (.iconst 1, 1) := by decide +kernel
theorem dX13_of_104 : decode cX13_of 104 = .ok (.goto 4, 3) := by decide +kernel
theorem dX13_of_107 : decode cX13_of 107 = .ok (.iconst 0, 1) := by decide +kernel
theorem dX13_of_108 : decode cX13_of 108 = .ok (.ireturn, 1) := by decide +kernel
theorem dX13_of_109 : decode cX13_of 109 = .ok (.iload_n 1, 1) := by decide +kernel
theorem dX13_of_110 : decode cX13_of 110 = .ok (.iload_n 2, 1) := by decide +kernel
theorem dX13_of_111 : decode cX13_of 111 = .ok (.if_icmp .ne 7, 3) := by decide +kernel
theorem dX13_of_114 : decode cX13_of 114 = .ok (.iconst 1, 1) := by decide +kernel
theorem dX13_of_115 : decode cX13_of 115 = .ok (.goto 4, 3) := by decide +kernel
theorem dX13_of_118 : decode cX13_of 118 = .ok (.iconst 0, 1) := by decide +kernel
theorem dX13_of_119 : decode cX13_of 119 = .ok (.ireturn, 1) := by decide +kernel
theorem dX13_of_120 : decode cX13_of 120 = .ok (.iload_n 1, 1) := by decide +kernel
theorem dX13_of_121 : decode cX13_of 121 = .ok (.iload_n 2, 1) := by decide +kernel
theorem dX13_of_122 : decode cX13_of 122 = .ok (.iadd, 1) := by decide +kernel
theorem dX13_of_123 : decode cX13_of 123 = .ok (.iconst 2, 1) := by decide +kernel
theorem dX13_of_124 : decode cX13_of 124 = .ok (.if_icmp .ne 7, 3) := by decide +kernel
theorem dX13_of_127 : decode cX13_of 127 = .ok (.iconst 1, 1) := by decide +kernel
theorem dX13_of_128 : decode cX13_of 128 = .ok (.goto 4, 3) := by decide +kernel
theorem dX13_of_131 : decode cX13_of 131 = .ok (.iconst 0, 1) := by decide +kernel
theorem dX13_of_132 : decode cX13_of 132 = .ok (.ireturn, 1) := by decide +kernel
theorem dX13_of_133 : decode cX13_of 133 = .ok (.iload_n 1, 1) := by decide +kernel
theorem dX13_of_134 : decode cX13_of 134 = .ok (.iload_n 2, 1) := by decide +kernel
theorem dX13_of_135 : decode cX13_of 135 = .ok (.iadd, 1) := by decide +kernel
theorem dX13_of_136 : decode cX13_of 136 = .ok (.ifCond .le 7, 3) := by decide +kernel
theorem dX13_of_139 : decode cX13_of 139 = .ok (.iconst 1, 1) := by decide +kernel
theorem dX13_of_140 : decode cX13_of 140 = .ok (.goto 4, 3) := by decide +kernel
theorem dX13_of_143 : decode cX13_of 143 = .ok (.iconst 0, 1) := by decide +kernel
theorem dX13_of_144 : decode cX13_of 144 = .ok (.ireturn, 1) := by decide +kernel
theorem dX13_without_0 : decode cX13_without 0 = .ok (.iload_n 0, 1) := by decide +kernel
theorem dX13_without_1 : decode cX13_without 1 = .ok (.ifCond .eq 35, 3) := by decide +kernel
theorem dX13_without_4 : decode cX13_without 4 = .ok (.iload_n 0, 1) := by decide +kernel
theorem dX13_without_5 : decode cX13_without 5 = .ok (.iconst 1, 1) := by decide +kernel
theorem dX13_without_6 : decode cX13_without 6 = .ok (.if_icmp .eq 30, 3) := by decide +kernel
theorem dX13_without_9 : decode cX13_without 9 = .ok (.iload_n 0, 1) := by decide +kernel
theorem dX13_without_10 : decode cX13_without 10 = .ok (.iconst 2, 1) := by decide +kernel
theorem dX13_without_11 : decode cX13_without 11 = .ok (.if_icmp .eq 25, 3) := by decide +kernel
theorem dX13_without_14 : decode cX13_without 14 = .ok (.iload_n 0, 1) := by decide +kernel
theorem dX13_without_15 : decode cX13_without 15 = .ok (.iconst 3, 1) := by decide +kernel
theorem dX13_without_16 : decode cX13_without 16 = .ok (.if_icmp .eq 20, 3) := by decide +kernel
theorem dX13_without_19 : decode cX13_without 19 = .ok (.iload_n 0, 1) := by decide +kernel
theorem dX13_without_20 : decode cX13_without 20 = .ok (.iconst 5, 1) := by decide +kernel
theorem dX13_without_21 : decode cX13_without 21 = .ok (.if_icmp .lt 9, 3) := by decide +kernel
theorem dX13_without_24 : decode cX13_without 24 = .ok (.iload_n 0, 1) := by decide +kernel
theorem dX13_without_25 : decode cX13_without 25 = .ok (.bipush 8, 2) := by decide +kernel
theorem dX13_without_27 : decode cX13_without 27 = .ok (.if_icmp .lt 9, 3) := by decide +kernel
theorem dX13_without_30 : decode cX13_without 30 = .ok (.iload_n 0, 1) := by decide +kernel
theorem dX13_without_31 : decode cX13_without 31 = .ok (.bipush 11, 2) := by decide +kernel
theorem dX13_without_33 : decode cX13_without 33 = .ok (.if_icmp .lt 7, 3) := by decide +kernel
theorem dX13_without_36 : decode cX13_without 36 = .ok (.iconst 1, 1) := by decide +kernel
theorem dX13_without_37 : decode cX13_without 37 = .ok (.goto 15, 3) := by decide +kernel
theorem dX13_without_40 : decode cX13_without 40 = .ok (.iload_n 0, 1) := by decide +kernel
theorem dX13_without_41 : decode cX13_without 41 = .ok (.iconst 4, 1) := by decide +kernel
theorem dX13_without_42 : decode cX13_without 42 = .ok (.if_icmp .ne 7, 3) := by decide +kernel
theorem dX13_without_45 : decode cX13_without 45 = .ok (.iconst 0, 1) := by decide +kernel
theorem dX13_without_46 : decode cX13_without 46 = .ok (.goto 6, 3) := by decide +kernel
theorem dX13_without_49 : decode cX13_without 49 = .ok (.sipush 400, 3) := by decide +kernel
theorem dX13_without_52 : decode cX13_without 52 = .ok (.ireturn, 1) := by decide +kernel
set_option maxRecDepth 20000 in
theorem ggX13_tells_X13_inForce : GoodIn wsX13_tells wsX13_inForce := goodIn_r _ [5, 6, 7, 8, 9, 10, 33, 34, 35, 36, 37, 38, 39, 40, 41, 42, 43, 44, 45, 46, 47, 48, 49, 50, 51, 52, 53, 54, 55, 56, 57, 58, 59, 60, 61, 62, 63, 64, 65, 66, 67, 68, 69, 70, 71, 72, 73, 74, 75, 76, 77, 78, 79, 80, 81, 82, 83, 84, 85, 86, 87, 88, 89, 90, 91, 92, 93, 94, 95, 96, 97, 98, 99, 100, 101, 102, 103, 104, 105, 106, 107, 108, 109, 110, 111, 112, 113, 114, 115, 116, 117, 118, 119, 120, 121, 122, 123, 124, 125, 126, 127, 128, 129, 130, 131, 132, 133, 134, 135, 136] (by decide +kernel) (by decide +kernel)
set_option maxRecDepth 20000 in
theorem gX13_tells_X13_inForce : GoodIn wsX13_tells (wsV RX13 386 RX13 yX13_inForce wsX13_inForce) := goodIn_app (goodIn_of _ (by decide +kernel)) ggX13_tells_X13_inForce
set_option maxRecDepth 20000 in
theorem ggX13_tells_X13_without : GoodIn wsX13_tells wsX13_without := goodIn_r _ [13] (by decide +kernel) (by decide +kernel)
set_option maxRecDepth 20000 in
theorem gX13_tells_X13_without : GoodIn wsX13_tells (va_wsS RX13 397 yX13_without wsX13_without) := goodIn_app (goodIn_of _ (by decide +kernel)) ggX13_tells_X13_without
set_option maxRecDepth 20000 in
theorem ggX13_tells_X13_reckoned : GoodIn wsX13_tells wsX13_reckoned := goodIn_r _ [17, 18, 9, 19, 20, 21, 22, 23, 24, 4, 25, 26, 27, 28, 29, 30, 31, 32, 33, 34, 35, 36, 37, 38, 39, 40, 41, 42, 43, 44, 45, 46, 47, 48, 49, 50, 51, 52, 53, 54, 55, 56, 57, 58, 59, 60, 61, 62, 63, 64, 65, 66, 67, 68, 69, 70, 71, 72, 73, 74, 75, 76, 77, 78, 79, 80, 81, 82, 83, 84, 85, 86, 87, 88, 89, 90, 91, 92, 93, 94, 95, 96, 97, 98, 99, 100, 101, 102, 103, 104, 105, 106, 107, 108, 109, 110, 111, 112, 113, 114, 115, 116, 117, 118, 119, 120, 121, 122, 123, 124, 125, 126, 127, 128, 129, 130, 131, 132, 133, 134, 135, 136] (by decide +kernel) (by decide +kernel)
set_option maxRecDepth 20000 in
theorem gX13_tells_X13_reckoned : GoodIn wsX13_tells (wsV RX13 401 RX13 yX13_reckoned wsX13_reckoned) := goodIn_app (goodIn_of _ (by decide +kernel)) ggX13_tells_X13_reckoned
theorem dX13_tells_0 : decode cX13_tells 0 = .ok (.aload_n 0, 1) := by decide +kernel
theorem dX13_tells_1 : decode cX13_tells 1 = .ok (.iload_n 1, 1) := by decide +kernel
theorem dX13_tells_2 : decode cX13_tells 2 = .ok (.iload_n 2, 1) := by decide +kernel
theorem dX13_tells_3 : decode cX13_tells 3 = .ok (.iload_n 3, 1) := by decide +kernel
theorem dX13_tells_4 : decode cX13_tells 4 = .ok (.invokevirtual 386, 3) := by decide +kernel
theorem dX13_tells_7 : decode cX13_tells 7 = .ok (.istore 4, 2) := by decide +kernel
theorem dX13_tells_9 : decode cX13_tells 9 = .ok (.iload 4, 2) := by decide +kernel
theorem dX13_tells_11 : decode cX13_tells 11 = .ok (.iconst (-1), 1) := by decide +kernel
theorem dX13_tells_12 : decode cX13_tells 12 = .ok (.if_icmp .ne 10, 3) := by decide +kernel
theorem dX13_tells_15 : decode cX13_tells 15 = .ok (.iload_n 1, 1) := by decide +kernel
theorem dX13_tells_16 : decode cX13_tells 16 = .ok (.invokestatic 397, 3) := by decide +kernel
theorem dX13_tells_19 : decode cX13_tells 19 = .ok (.goto 10, 3) := by decide +kernel
theorem dX13_tells_22 : decode cX13_tells 22 = .ok (.aload_n 0, 1) := by decide +kernel
theorem dX13_tells_23 : decode cX13_tells 23 = .ok (.iload 4, 2) := by decide +kernel
theorem dX13_tells_25 : decode cX13_tells 25 = .ok (.iload_n 1, 1) := by decide +kernel
theorem dX13_tells_26 : decode cX13_tells 26 = .ok (.invokevirtual 401, 3) := by decide +kernel
theorem dX13_tells_29 : decode cX13_tells 29 = .ok (.ireturn, 1) := by decide +kernel
theorem dX13_isSkipped_0 : decode cX13_isSkipped 0 = .ok (.iconst 0, 1) := by decide +kernel
theorem dX13_isSkipped_1 : decode cX13_isSkipped 1 = .ok (.istore 4, 2) := by decide +kernel
theorem dX13_isSkipped_3 : decode cX13_isSkipped 3 = .ok (.iload 4, 2) := by decide +kernel
theorem dX13_isSkipped_5 : decode cX13_isSkipped 5 = .ok (.aload_n 0, 1) := by decide +kernel
theorem dX13_isSkipped_6 : decode cX13_isSkipped 6 = .ok (.getfield 380, 3) := by decide +kernel
theorem dX13_isSkipped_9 : decode cX13_isSkipped 9 = .ok (.if_icmp .ge 154, 3) := by decide +kernel
theorem dX13_isSkipped_12 : decode cX13_isSkipped 12 = .ok (.aload_n 0, 1) := by decide +kernel
theorem dX13_isSkipped_13 : decode cX13_isSkipped 13 = .ok (.getfield 59, 3) := by decide +kernel
theorem dX13_isSkipped_16 : decode cX13_isSkipped 16 = .ok (.iload 4, 2) := by decide +kernel
theorem dX13_isSkipped_18 : decode cX13_isSkipped 18 = .ok (.iaload, 1) := by decide +kernel
theorem dX13_isSkipped_19 : decode cX13_isSkipped 19 = .ok (.iconst (-1), 1) := by decide +kernel
theorem dX13_isSkipped_20 : decode cX13_isSkipped 20 = .ok (.if_icmp .eq 17, 3) := by decide +kernel
theorem dX13_isSkipped_23 : decode cX13_isSkipped 23 = .ok (.aload_n 0, 1) := by decide +kernel
theorem dX13_isSkipped_24 : decode cX13_isSkipped 24 = .ok (.getfield 59, 3) := by decide +kernel
theorem dX13_isSkipped_27 : decode cX13_isSkipped 27 = .ok (.iload 4, 2) := by decide +kernel
theorem dX13_isSkipped_29 : decode cX13_isSkipped 29 = .ok (.iaload, 1) := by decide +kernel
theorem dX13_isSkipped_30 : decode cX13_isSkipped 30 = .ok (.iload_n 3, 1) := by decide +kernel
theorem dX13_isSkipped_31 : decode cX13_isSkipped 31 = .ok (.if_icmp .eq 6, 3) := by decide +kernel
theorem dX13_isSkipped_34 : decode cX13_isSkipped 34 = .ok (.goto 123, 3) := by decide +kernel
theorem dX13_isSkipped_37 : decode cX13_isSkipped 37 = .ok (.iconst 0, 1) := by decide +kernel
theorem dX13_isSkipped_38 : decode cX13_isSkipped 38 = .ok (.istore 5, 2) := by decide +kernel
theorem dX13_isSkipped_40 : decode cX13_isSkipped 40 = .ok (.iload 5, 2) := by decide +kernel
theorem dX13_isSkipped_42 : decode cX13_isSkipped 42 = .ok (.aload_n 0, 1) := by decide +kernel
theorem dX13_isSkipped_43 : decode cX13_isSkipped 43 = .ok (.getfield 47, 3) := by decide +kernel
theorem dX13_isSkipped_46 : decode cX13_isSkipped 46 = .ok (.aload_n 0, 1) := by decide +kernel
theorem dX13_isSkipped_47 : decode cX13_isSkipped 47 = .ok (.getfield 56, 3) := by decide +kernel
theorem dX13_isSkipped_50 : decode cX13_isSkipped 50 = .ok (.iload 4, 2) := by decide +kernel
theorem dX13_isSkipped_52 : decode cX13_isSkipped 52 = .ok (.iaload, 1) := by decide +kernel
theorem dX13_isSkipped_53 : decode cX13_isSkipped 53 = .ok (.iaload, 1) := by decide +kernel
theorem dX13_isSkipped_54 : decode cX13_isSkipped 54 = .ok (.if_icmp .ge 103, 3) := by decide +kernel
theorem dX13_isSkipped_57 : decode cX13_isSkipped 57 = .ok (.iconst 4, 1) := by decide +kernel
theorem dX13_isSkipped_58 : decode cX13_isSkipped 58 = .ok (.aload_n 0, 1) := by decide +kernel
theorem dX13_isSkipped_59 : decode cX13_isSkipped 59 = .ok (.getfield 56, 3) := by decide +kernel
theorem dX13_isSkipped_62 : decode cX13_isSkipped 62 = .ok (.iload 4, 2) := by decide +kernel
theorem dX13_isSkipped_64 : decode cX13_isSkipped 64 = .ok (.iaload, 1) := by decide +kernel
theorem dX13_isSkipped_65 : decode cX13_isSkipped 65 = .ok (.imul, 1) := by decide +kernel
theorem dX13_isSkipped_66 : decode cX13_isSkipped 66 = .ok (.iload 5, 2) := by decide +kernel
theorem dX13_isSkipped_68 : decode cX13_isSkipped 68 = .ok (.iadd, 1) := by decide +kernel
theorem dX13_isSkipped_69 : decode cX13_isSkipped 69 = .ok (.istore 6, 2) := by decide +kernel
theorem dX13_isSkipped_71 : decode cX13_isSkipped 71 = .ok (.aload_n 0, 1) := by decide +kernel
theorem dX13_isSkipped_72 : decode cX13_isSkipped 72 = .ok (.getfield 53, 3) := by decide +kernel
theorem dX13_isSkipped_75 : decode cX13_isSkipped 75 = .ok (.iload 6, 2) := by decide +kernel
theorem dX13_isSkipped_77 : decode cX13_isSkipped 77 = .ok (.iaload, 1) := by decide +kernel
theorem dX13_isSkipped_78 : decode cX13_isSkipped 78 = .ok (.iload_n 2, 1) := by decide +kernel
theorem dX13_isSkipped_79 : decode cX13_isSkipped 79 = .ok (.if_icmp .ne 7, 3) := by decide +kernel
theorem dX13_isSkipped_82 : decode cX13_isSkipped 82 = .ok (.iconst 1, 1) := by decide +kernel
theorem dX13_isSkipped_83 : decode cX13_isSkipped 83 = .ok (.goto 4, 3) := by decide +kernel
theorem dX13_isSkipped_86 : decode cX13_isSkipped 86 = .ok (.iconst 0, 1) := by decide +kernel
theorem dX13_isSkipped_87 : decode cX13_isSkipped 87 = .ok (.istore 7, 2) := by decide +kernel
theorem dX13_isSkipped_89 : decode cX13_isSkipped 89 = .ok (.iconst 0, 1) := by decide +kernel
theorem dX13_isSkipped_90 : decode cX13_isSkipped 90 = .ok (.istore 8, 2) := by decide +kernel
theorem dX13_isSkipped_92 : decode cX13_isSkipped 92 = .ok (.iload 8, 2) := by decide +kernel
theorem dX13_isSkipped_94 : decode cX13_isSkipped 94 = .ok (.iload_n 2, 1) := by decide +kernel
theorem dX13_isSkipped_95 : decode cX13_isSkipped 95 = .ok (.if_icmp .ge 49, 3) := by decide +kernel
theorem dX13_isSkipped_98 : decode cX13_isSkipped 98 = .ok (.iload 7, 2) := by decide +kernel
theorem dX13_isSkipped_100 : decode cX13_isSkipped 100 = .ok (.ifCond .eq 44, 3) := by decide +kernel
theorem dX13_isSkipped_103 : decode cX13_isSkipped 103 = .ok (.aload_n 0, 1) := by decide +kernel
theorem dX13_isSkipped_104 : decode cX13_isSkipped 104 = .ok (.getfield 50, 3) := by decide +kernel
theorem dX13_isSkipped_107 : decode cX13_isSkipped 107 = .ok (.bipush 8, 2) := by decide +kernel
theorem dX13_isSkipped_109 : decode cX13_isSkipped 109 = .ok (.iload 6, 2) := by decide +kernel
theorem dX13_isSkipped_111 : decode cX13_isSkipped 111 = .ok (.imul, 1) := by decide +kernel
theorem dX13_isSkipped_112 : decode cX13_isSkipped 112 = .ok (.iload 8, 2) := by decide +kernel
theorem dX13_isSkipped_114 : decode cX13_isSkipped 114 = .ok (.iadd, 1) := by decide +kernel
theorem dX13_isSkipped_115 : decode cX13_isSkipped 115 = .ok (.baload, 1) := by decide +kernel
theorem dX13_isSkipped_116 : decode cX13_isSkipped 116 = .ok (.aload_n 0, 1) := by decide +kernel
theorem dX13_isSkipped_117 : decode cX13_isSkipped 117 = .ok (.getfield 84, 3) := by decide +kernel
theorem dX13_isSkipped_120 : decode cX13_isSkipped 120 = .ok (.bipush 12, 2) := by decide +kernel
theorem dX13_isSkipped_122 : decode cX13_isSkipped 122 = .ok (.iload_n 1, 1) := by decide +kernel
theorem dX13_isSkipped_123 : decode cX13_isSkipped 123 = .ok (.imul, 1) := by decide +kernel
theorem dX13_isSkipped_124 : decode cX13_isSkipped 124 = .ok (.iload 8, 2) := by decide +kernel
theorem dX13_isSkipped_126 : decode cX13_isSkipped 126 = .ok (.iadd, 1) := by decide +kernel
theorem dX13_isSkipped_127 : decode cX13_isSkipped 127 = .ok (.baload, 1) := by decide +kernel
theorem dX13_isSkipped_128 : decode cX13_isSkipped 128 = .ok (.if_icmp .ne 7, 3) := by decide +kernel
theorem dX13_isSkipped_131 : decode cX13_isSkipped 131 = .ok (.iconst 1, 1) := by decide +kernel
theorem dX13_isSkipped_132 : decode cX13_isSkipped 132 = .ok (.goto 4, 3) := by decide +kernel
theorem dX13_isSkipped_135 : decode cX13_isSkipped 135 = .ok (.iconst 0, 1) := by decide +kernel
theorem dX13_isSkipped_136 : decode cX13_isSkipped 136 = .ok (.istore 7, 2) := by decide +kernel
theorem dX13_isSkipped_138 : decode cX13_isSkipped 138 = .ok (.iinc 8 1, 3) := by decide +kernel
theorem dX13_isSkipped_141 : decode cX13_isSkipped 141 = .ok (.goto (-49), 3) := by decide +kernel
theorem dX13_isSkipped_144 : decode cX13_isSkipped 144 = .ok (.iload 7, 2) := by decide +kernel
theorem dX13_isSkipped_146 : decode cX13_isSkipped 146 = .ok (.ifCond .eq 5, 3) := by decide +kernel
theorem dX13_isSkipped_149 : decode cX13_isSkipped 149 = .ok (.iconst 1, 1) := by decide +kernel
theorem dX13_isSkipped_150 : decode cX13_isSkipped 150 = .ok (.ireturn, 1) := by decide +kernel
theorem dX13_isSkipped_151 : decode cX13_isSkipped 151 = .ok (.iinc 5 1, 3) := by decide +kernel
theorem dX13_isSkipped_154 : decode cX13_isSkipped 154 = .ok (.goto (-114), 3) := by decide +kernel
