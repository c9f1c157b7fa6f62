theorem dX0_isDigit_13 : decode cX0_isDigit 13 = .ok (.goto 4, 3) := by decide +kernel
theorem dX0_isDigit_16 : decode cX0_isDigit 16 = .ok (.iconst 0, 1) := by decide +kernel
theorem dX0_isDigit_17 : decode cX0_isDigit 17 = .ok (.ireturn, 1) := by decide +kernel
set_option maxRecDepth 20000 in
theorem ggX0_isMark_X0_isDigit : GoodIn wsX0_isMark wsX0_isDigit := goodIn_r _ [4] (by decide +kernel) (by decide +kernel)
set_option maxRecDepth 20000 in
theorem gX0_isMark_X0_isDigit : GoodIn wsX0_isMark (va_wsS RX0 40 yX0_isDigit wsX0_isDigit) := goodIn_app (goodIn_of _ (by decide +kernel)) ggX0_isMark_X0_isDigit
theorem dX0_isMark_0 : decode cX0_isMark 0 = .ok (.iload_n 0, 1) := by decide +kernel
theorem dX0_isMark_1 : decode cX0_isMark 1 = .ok (.bipush 97, 2) := by decide +kernel
theorem dX0_isMark_3 : decode cX0_isMark 3 = .ok (.if_icmp .lt 9, 3) := by decide +kernel
theorem dX0_isMark_6 : decode cX0_isMark 6 = .ok (.iload_n 0, 1) := by decide +kernel
theorem dX0_isMark_7 : decode cX0_isMark 7 = .ok (.bipush 122, 2) := by decide +kernel
theorem dX0_isMark_9 : decode cX0_isMark 9 = .ok (.if_icmp .le 10, 3) := by decide +kernel
theorem dX0_isMark_12 : decode cX0_isMark 12 = .ok (.iload_n 0, 1) := by decide +kernel
theorem dX0_isMark_13 : decode cX0_isMark 13 = .ok (.invokestatic 40, 3) := by decide +kernel
theorem dX0_isMark_16 : decode cX0_isMark 16 = .ok (.ifCond .eq 7, 3) := by decide +kernel
theorem dX0_isMark_19 : decode cX0_isMark 19 = .ok (.iconst 1, 1) := by decide +kernel
theorem dX0_isMark_20 : decode cX0_isMark 20 = .ok (.goto 4, 3) := by decide +kernel
theorem dX0_isMark_23 : decode cX0_isMark 23 = .ok (.iconst 0, 1) := by decide +kernel
theorem dX0_isMark_24 : decode cX0_isMark 24 = .ok (.ireturn, 1) := by decide +kernel
set_option maxRecDepth 20000 in
theorem ggX0_headingSize_X0_byteOf : GoodIn wsX0_headingSize wsX0_byteOf := goodIn_r _ [4] (by decide +kernel) (by decide +kernel)
set_option maxRecDepth 20000 in
theorem gX0_headingSize_X0_byteOf : GoodIn wsX0_headingSize (va_wsS RX0 44 yX0_byteOf wsX0_byteOf) := goodIn_app (goodIn_of _ (by decide +kernel)) ggX0_headingSize_X0_byteOf
set_option maxRecDepth 20000 in
theorem ggX0_headingSize_X0_isMark : GoodIn wsX0_headingSize wsX0_isMark := goodIn_r _ [7, 8, 9, 3, 10] (by decide +kernel) (by decide +kernel)
set_option maxRecDepth 20000 in
theorem gX0_headingSize_X0_isMark : GoodIn wsX0_headingSize (va_wsS RX0 48 yX0_isMark wsX0_isMark) := goodIn_app (goodIn_of _ (by decide +kernel)) ggX0_headingSize_X0_isMark
theorem dX0_headingSize_0 : decode cX0_headingSize 0 = .ok (.iconst 0, 1) := by decide +kernel
theorem dX0_headingSize_1 : decode cX0_headingSize 1 = .ok (.istore_n 3, 1) := by decide +kernel
theorem dX0_headingSize_2 : decode cX0_headingSize 2 = .ok (.bipush 32, 2) := by decide +kernel
theorem dX0_headingSize_4 : decode cX0_headingSize 4 = .ok (.istore 4, 2) := by decide +kernel
theorem dX0_headingSize_6 : decode cX0_headingSize 6 = .ok (.iconst 0, 1) := by decide +kernel
theorem dX0_headingSize_7 : decode cX0_headingSize 7 = .ok (.istore 5, 2) := by decide +kernel
theorem dX0_headingSize_9 : decode cX0_headingSize 9 = .ok (.iload 5, 2) := by decide +kernel
theorem dX0_headingSize_11 : decode cX0_headingSize 11 = .ok (.bipush 12, 2) := by decide +kernel
theorem dX0_headingSize_13 : decode cX0_headingSize 13 = .ok (.if_icmp .ge 76, 3) := by decide +kernel
theorem dX0_headingSize_16 : decode cX0_headingSize 16 = .ok (.iload_n 0, 1) := by decide +kernel
theorem dX0_headingSize_17 : decode cX0_headingSize 17 = .ok (.iload_n 1, 1) := by decide +kernel
theorem dX0_headingSize_18 : decode cX0_headingSize 18 = .ok (.iload_n 2, 1) := by decide +kernel
theorem dX0_headingSize_19 : decode cX0_headingSize 19 = .ok (.iload 5, 2) := by decide +kernel
theorem dX0_headingSize_21 : decode cX0_headingSize 21 = .ok (.invokestatic 44, 3) := by decide +kernel
theorem dX0_headingSize_24 : decode cX0_headingSize 24 = .ok (.istore 6, 2) := by decide +kernel
theorem dX0_headingSize_26 : decode cX0_headingSize 26 = .ok (.iload 6, 2) := by decide +kernel
theorem dX0_headingSize_28 : decode cX0_headingSize 28 = .ok (.ifCond .ne 6, 3) := by decide +kernel
theorem dX0_headingSize_31 : decode cX0_headingSize 31 = .ok (.goto 52, 3) := by decide +kernel
theorem dX0_headingSize_34 : decode cX0_headingSize 34 = .ok (.iload 6, 2) := by decide +kernel
theorem dX0_headingSize_36 : decode cX0_headingSize 36 = .ok (.invokestatic 48, 3) := by decide +kernel
theorem dX0_headingSize_39 : decode cX0_headingSize 39 = .ok (.ifCond .ne 17, 3) := by decide +kernel
theorem dX0_headingSize_42 : decode cX0_headingSize 42 = .ok (.iload 6, 2) := by decide +kernel
theorem dX0_headingSize_44 : decode cX0_headingSize 44 = .ok (.bipush 32, 2) := by decide +kernel
theorem dX0_headingSize_46 : decode cX0_headingSize 46 = .ok (.if_icmp .ne 14, 3) := by decide +kernel
theorem dX0_headingSize_49 : decode cX0_headingSize 49 = .ok (.iload 4, 2) := by decide +kernel
theorem dX0_headingSize_51 : decode cX0_headingSize 51 = .ok (.bipush 32, 2) := by decide +kernel
theorem dX0_headingSize_53 : decode cX0_headingSize 53 = .ok (.if_icmp .eq 7, 3) := by decide +kernel
theorem dX0_headingSize_56 : decode cX0_headingSize 56 = .ok (.iconst 1, 1) := by decide +kernel
theorem dX0_headingSize_57 : decode cX0_headingSize 57 = .ok (.goto 4, 3) := by decide +kernel
theorem dX0_headingSize_60 : decode cX0_headingSize 60 = .ok (.iconst 0, 1) := by decide +kernel
theorem dX0_headingSize_61 : decode cX0_headingSize 61 = .ok (.istore 7, 2) := by decide +kernel
theorem dX0_headingSize_63 : decode cX0_headingSize 63 = .ok (.iload 7, 2) := by decide +kernel
theorem dX0_headingSize_65 : decode cX0_headingSize 65 = .ok (.ifCond .eq 9, 3) := by decide +kernel
theorem dX0_headingSize_68 : decode cX0_headingSize 68 = .ok (.iload_n 3, 1) := by decide +kernel
theorem dX0_headingSize_69 : decode cX0_headingSize 69 = .ok (.iload 5, 2) := by decide +kernel
theorem dX0_headingSize_71 : decode cX0_headingSize 71 = .ok (.if_icmp .ge 5, 3) := by decide +kernel
theorem dX0_headingSize_74 : decode cX0_headingSize 74 = .ok (.iconst (-1), 1) := by decide +kernel
theorem dX0_headingSize_75 : decode cX0_headingSize 75 = .ok (.ireturn, 1) := by decide +kernel
theorem dX0_headingSize_76 : decode cX0_headingSize 76 = .ok (.iload 6, 2) := by decide +kernel
theorem dX0_headingSize_78 : decode cX0_headingSize 78 = .ok (.istore 4, 2) := by decide +kernel
theorem dX0_headingSize_80 : decode cX0_headingSize 80 = .ok (.iinc 3 1, 3) := by decide +kernel
theorem dX0_headingSize_83 : decode cX0_headingSize 83 = .ok (.iinc 5 1, 3) := by decide +kernel
theorem dX0_headingSize_86 : decode cX0_headingSize 86 = .ok (.goto (-77), 3) := by decide +kernel
theorem dX0_headingSize_89 : decode cX0_headingSize 89 = .ok (.iload 4, 2) := by decide +kernel
theorem dX0_headingSize_91 : decode cX0_headingSize 91 = .ok (.bipush 32, 2) := by decide +kernel
theorem dX0_headingSize_93 : decode cX0_headingSize 93 = .ok (.if_icmp .ne 7, 3) := by decide +kernel
theorem dX0_headingSize_96 : decode cX0_headingSize 96 = .ok (.iconst (-1), 1) := by decide +kernel
theorem dX0_headingSize_97 : decode cX0_headingSize 97 = .ok (.goto 4, 3) := by decide +kernel
theorem dX0_headingSize_100 : decode cX0_headingSize 100 = .ok (.iload_n 3, 1) := by decide +kernel
theorem dX0_headingSize_101 : decode cX0_headingSize 101 = .ok (.ireturn, 1) := by decide +kernel
set_option maxRecDepth 20000 in
theorem ggX0_readHeading_X0_byteOf : GoodIn wsX0_readHeading wsX0_byteOf := goodIn_r _ [7] (by decide +kernel) (by decide +kernel)
set_option maxRecDepth 20000 in
theorem gX0_readHeading_X0_byteOf : GoodIn wsX0_readHeading (va_wsS RX0 44 yX0_byteOf wsX0_byteOf) := goodIn_app (goodIn_of _ (by decide +kernel)) ggX0_readHeading_X0_byteOf
theorem dX0_readHeading_0 : decode cX0_readHeading 0 = .ok (.iconst 0, 1) := by decide +kernel
theorem dX0_readHeading_1 : decode cX0_readHeading 1 = .ok (.istore 4, 2) := by decide +kernel
theorem dX0_readHeading_3 : decode cX0_readHeading 3 = .ok (.iload 4, 2) := by decide +kernel
theorem dX0_readHeading_5 : decode cX0_readHeading 5 = .ok (.aload_n 0, 1) := by decide +kernel
theorem dX0_readHeading_6 : decode cX0_readHeading 6 = .ok (.getfield 36, 3) := by decide +kernel
theorem dX0_readHeading_9 : decode cX0_readHeading 9 = .ok (.arraylength, 1) := by decide +kernel
theorem dX0_readHeading_10 : decode cX0_readHeading 10 = .ok (.if_icmp .ge 25, 3) := by decide +kernel
theorem dX0_readHeading_13 : decode cX0_readHeading 13 = .ok (.aload_n 0, 1) := by decide +kernel
theorem dX0_readHeading_14 : decode cX0_readHeading 14 = .ok (.getfield 36, 3) := by decide +kernel
theorem dX0_readHeading_17 : decode cX0_readHeading 17 = .ok (.iload 4, 2) := by decide +kernel
theorem dX0_readHeading_19 : decode cX0_readHeading 19 = .ok (.iload_n 1, 1) := by decide +kernel
theorem dX0_readHeading_20 : decode cX0_readHeading 20 = .ok (.iload_n 2, 1) := by decide +kernel
theorem dX0_readHeading_21 : decode cX0_readHeading 21 = .ok (.iload_n 3, 1) := by decide +kernel
theorem dX0_readHeading_22 : decode cX0_readHeading 22 = .ok (.iload 4, 2) := by decide +kernel
theorem dX0_readHeading_24 : decode cX0_readHeading 24 = .ok (.invokestatic 44, 3) := by decide +kernel
theorem dX0_readHeading_27 : decode cX0_readHeading 27 = .ok (.i2b, 1) := by decide +kernel
theorem dX0_readHeading_28 : decode cX0_readHeading 28 = .ok (.bastore, 1) := by decide +kernel
theorem dX0_readHeading_29 : decode cX0_readHeading 29 = .ok (.iinc 4 1, 3) := by decide +kernel
theorem dX0_readHeading_32 : decode cX0_readHeading 32 = .ok (.goto (-29), 3) := by decide +kernel
theorem dX0_readHeading_35 : decode cX0_readHeading 35 = .ok (.iconst 0, 1) := by decide +kernel
theorem dX0_readHeading_36 : decode cX0_readHeading 36 = .ok (.istore 4, 2) := by decide +kernel
theorem dX0_readHeading_38 : decode cX0_readHeading 38 = .ok (.iload 4, 2) := by decide +kernel
theorem dX0_readHeading_40 : decode cX0_readHeading 40 = .ok (.aload_n 0, 1) := by decide +kernel
theorem dX0_readHeading_41 : decode cX0_readHeading 41 = .ok (.getfield 36, 3) := by decide +kernel
theorem dX0_readHeading_44 : decode cX0_readHeading 44 = .ok (.arraylength, 1) := by decide +kernel
theorem dX0_readHeading_45 : decode cX0_readHeading 45 = .ok (.if_icmp .ge 49, 3) := by decide +kernel
theorem dX0_readHeading_48 : decode cX0_readHeading 48 = .ok (.aload_n 0, 1) := by decide +kernel
theorem dX0_readHeading_49 : decode cX0_readHeading 49 = .ok (.getfield 36, 3) := by decide +kernel
theorem dX0_readHeading_52 : decode cX0_readHeading 52 = .ok (.iload 4, 2) := by decide +kernel
theorem dX0_readHeading_54 : decode cX0_readHeading 54 = .ok (.baload, 1) := by decide +kernel
theorem dX0_readHeading_55 : decode cX0_readHeading 55 = .ok (.bipush 32, 2) := by decide +kernel
theorem dX0_readHeading_57 : decode cX0_readHeading 57 = .ok (.if_icmp .eq 37, 3) := by decide +kernel
theorem dX0_readHeading_60 : decode cX0_readHeading 60 = .ok (.aload_n 0, 1) := by decide +kernel
theorem dX0_readHeading_61 : decode cX0_readHeading 61 = .ok (.aload_n 0, 1) := by decide +kernel
theorem dX0_readHeading_62 : decode cX0_readHeading 62 = .ok (.getfield 51, 3) := by decide +kernel
theorem dX0_readHeading_65 : decode cX0_readHeading 65 = .ok (.bipush 8, 2) := by decide +kernel
theorem dX0_readHeading_67 : decode cX0_readHeading 67 = .ok (.lshl, 1) := by decide +kernel
theorem dX0_readHeading_68 : decode cX0_readHeading 68 = .ok (.aload_n 0, 1) := by decide +kernel
theorem dX0_readHeading_69 : decode cX0_readHeading 69 = .ok (.getfield 36, 3) := by decide +kernel
theorem dX0_readHeading_72 : decode cX0_readHeading 72 = .ok (.iload 4, 2) := by decide +kernel
theorem dX0_readHeading_74 : decode cX0_readHeading 74 = .ok (.baload, 1) := by decide +kernel
theorem dX0_readHeading_75 : decode cX0_readHeading 75 = .ok (.i2l, 1) := by decide +kernel
theorem dX0_readHeading_76 : decode cX0_readHeading 76 = .ok (.lor, 1) := by decide +kernel
theorem dX0_readHeading_77 : decode cX0_readHeading 77 = .ok (.putfield 51, 3) := by decide +kernel
theorem dX0_readHeading_80 : decode cX0_readHeading 80 = .ok (.aload_n 0, 1) := by decide +kernel
theorem dX0_readHeading_81 : decode cX0_readHeading 81 = .ok (.iload 4, 2) := by decide +kernel
theorem dX0_readHeading_83 : decode cX0_readHeading 83 = .ok (.iconst 2, 1) := by decide +kernel
theorem dX0_readHeading_84 : decode cX0_readHeading 84 = .ok (.iadd, 1) := by decide +kernel
theorem dX0_readHeading_85 : decode cX0_readHeading 85 = .ok (.putfield 55, 3) := by decide +kernel
theorem dX0_readHeading_88 : decode cX0_readHeading 88 = .ok (.iinc 4 1, 3) := by decide +kernel
theorem dX0_readHeading_91 : decode cX0_readHeading 91 = .ok (.goto (-53), 3) := by decide +kernel
theorem dX0_readHeading_94 : decode cX0_readHeading 94 = .ok (.aload_n 0, 1) := by decide +kernel
theorem dX0_readHeading_95 : decode cX0_readHeading 95 = .ok (.getfield 55, 3) := by decide +kernel
theorem dX0_readHeading_98 : decode cX0_readHeading 98 = .ok (.aload_n 0, 1) := by decide +kernel
theorem dX0_readHeading_99 : decode cX0_readHeading 99 = .ok (.getfield 36, 3) := by decide +kernel
theorem dX0_readHeading_102 : decode cX0_readHeading 102 = .ok (.arraylength, 1) := by decide +kernel
theorem dX0_readHeading_103 : decode cX0_readHeading 103 = .ok (.if_icmp .gt 12, 3) := by decide +kernel
theorem dX0_readHeading_106 : decode cX0_readHeading 106 = .ok (.aload_n 0, 1) := by decide +kernel
theorem dX0_readHeading_107 : decode cX0_readHeading 107 = .ok (.getfield 55, 3) := by decide +kernel
theorem dX0_readHeading_110 : decode cX0_readHeading 110 = .ok (.bipush 9, 2) := by decide +kernel
theorem dX0_readHeading_112 : decode cX0_readHeading 112 = .ok (.if_icmp .le 8, 3) := by decide +kernel
theorem dX0_readHeading_115 : decode cX0_readHeading 115 = .ok (.aload_n 0, 1) := by decide +kernel
theorem dX0_readHeading_116 : decode cX0_readHeading 116 = .ok (.iconst 0, 1) := by decide +kernel
theorem dX0_readHeading_117 : decode cX0_readHeading 117 = .ok (.putfield 55, 3) := by decide +kernel
theorem dX0_readHeading_120 : decode cX0_readHeading 120 = .ok (.return_, 1) := by decide +kernel
theorem dX0_byteAt_0 : decode cX0_byteAt 0 = .ok (.iload_n 1, 1) := by decide +kernel
theorem dX0_byteAt_1 : decode cX0_byteAt 1 = .ok (.ifCond .lt 21, 3) := by decide +kernel
theorem dX0_byteAt_4 : decode cX0_byteAt 4 = .ok (.iload_n 1, 1) := by decide +kernel
theorem dX0_byteAt_5 : decode cX0_byteAt 5 = .ok (.aload_n 0, 1) := by decide +kernel
theorem dX0_byteAt_6 : decode cX0_byteAt 6 = .ok (.getfield 36, 3) := by decide +kernel
theorem dX0_byteAt_9 : decode cX0_byteAt 9 = .ok (.arraylength, 1) := by decide +kernel
theorem dX0_byteAt_10 : decode cX0_byteAt 10 = .ok (.if_icmp .ge 12, 3) := by decide +kernel
theorem dX0_byteAt_13 : decode cX0_byteAt 13 = .ok (.aload_n 0, 1) := by decide +kernel
theorem dX0_byteAt_14 : decode cX0_byteAt 14 = .ok (.getfield 36, 3) := by decide +kernel
theorem dX0_byteAt_17 : decode cX0_byteAt 17 = .ok (.iload_n 1, 1) := by decide +kernel
theorem dX0_byteAt_18 : decode cX0_byteAt 18 = .ok (.baload, 1) := by decide +kernel
theorem dX0_byteAt_19 : decode cX0_byteAt 19 = .ok (.goto 4, 3) := by decide +kernel
theorem dX0_byteAt_22 : decode cX0_byteAt 22 = .ok (.iconst 0, 1) := by decide +kernel
theorem dX0_byteAt_23 : decode cX0_byteAt 23 = .ok (.ireturn, 1) := by decide +kernel
theorem dX0_isDone_0 : decode cX0_isDone 0 = .ok (.aload_n 0, 1) := by decide +kernel
theorem dX0_isDone_1 : decode cX0_isDone 1 = .ok (.getfield 60, 3) := by decide +kernel
theorem dX0_isDone_4 : decode cX0_isDone 4 = .ok (.aload_n 0, 1) := by decide +kernel
theorem dX0_isDone_5 : decode cX0_isDone 5 = .ok (.getfield 63, 3) := by decide +kernel
theorem dX0_isDone_8 : decode cX0_isDone 8 = .ok (.if_icmp .lt 7, 3) := by decide +kernel
theorem dX0_isDone_11 : decode cX0_isDone 11 = .ok (.iconst 1, 1) := by decide +kernel
theorem dX0_isDone_12 : decode cX0_isDone 12 = .ok (.goto 4, 3) := by decide +kernel
theorem dX0_isDone_15 : decode cX0_isDone 15 = .ok (.iconst 0, 1) := by decide +kernel
theorem dX0_isDone_16 : decode cX0_isDone 16 = .ok (.ireturn, 1) := by decide +kernel
theorem dX0_isUnfinishedOf_0 : decode cX0_isUnfinishedOf 0 = .ok (.aload_n 0, 1) := by decide +kernel
theorem dX0_isUnfinishedOf_1 : decode cX0_isUnfinishedOf 1 = .ok (.getfield 27, 3) := by decide +kernel
theorem dX0_isUnfinishedOf_4 : decode cX0_isUnfinishedOf 4 = .ok (.ifCond .ne 34, 3) := by decide +kernel
theorem dX0_isUnfinishedOf_7 : decode cX0_isUnfinishedOf 7 = .ok (.aload_n 0, 1) := by decide +kernel
theorem dX0_isUnfinishedOf_8 : decode cX0_isUnfinishedOf 8 = .ok (.getfield 21, 3) := by decide +kernel
theorem dX0_isUnfinishedOf_11 : decode cX0_isUnfinishedOf 11 = .ok (.iload_n 1, 1) := by decide +kernel
theorem dX0_isUnfinishedOf_12 : decode cX0_isUnfinishedOf 12 = .ok (.if_icmp .ne 26, 3) := by decide +kernel
theorem dX0_isUnfinishedOf_15 : decode cX0_isUnfinishedOf 15 = .ok (.aload_n 0, 1) := by decide +kernel
theorem dX0_isUnfinishedOf_16 : decode cX0_isUnfinishedOf 16 = .ok (.getfield 60, 3) := by decide +kernel
theorem dX0_isUnfinishedOf_19 : decode cX0_isUnfinishedOf 19 = .ok (.aload_n 0, 1) := by decide +kernel
theorem dX0_isUnfinishedOf_20 : decode cX0_isUnfinishedOf 20 = .ok (.getfield 63, 3) := by decide +kernel
theorem dX0_isUnfinishedOf_23 : decode cX0_isUnfinishedOf 23 = .ok (.if_icmp .ge 15, 3) := by decide +kernel
theorem dX0_isUnfinishedOf_26 : decode cX0_isUnfinishedOf 26 = .ok (.aload_n 0, 1) := by decide +kernel
theorem dX0_isUnfinishedOf_27 : decode cX0_isUnfinishedOf 27 = .ok (.getfield 66, 3) := by decide +kernel
theorem dX0_isUnfinishedOf_30 : decode cX0_isUnfinishedOf 30 = .ok (.iconst 1, 1) := by decide +kernel
theorem dX0_isUnfinishedOf_31 : decode cX0_isUnfinishedOf 31 = .ok (.if_icmp .eq 7, 3) := by decide +kernel
theorem dX0_isUnfinishedOf_34 : decode cX0_isUnfinishedOf 34 = .ok (.iconst 1, 1) := by decide +kernel
theorem dX0_isUnfinishedOf_35 : decode cX0_isUnfinishedOf 35 = .ok (.goto 4, 3) := by decide +kernel
theorem dX0_isUnfinishedOf_38 : decode cX0_isUnfinishedOf 38 = .ok (.iconst 0, 1) := by decide +kernel
theorem dX0_isUnfinishedOf_39 : decode cX0_isUnfinishedOf 39 = .ok (.ireturn, 1) := by decide +kernel
theorem dX1_init_0 : decode cX1_init 0 = .ok (.aload_n 0, 1) := by decide +kernel
theorem dX1_init_1 : decode cX1_init 1 = .ok (.invokespecial 5, 3) := by decide +kernel
theorem dX1_init_4 : decode cX1_init 4 = .ok (.aload_n 0, 1) := by decide +kernel
theorem dX1_init_5 : decode cX1_init 5 = .ok (.bipush 7, 2) := by decide +kernel
theorem dX1_init_7 : decode cX1_init 7 = .ok (.newarray .int, 2) := by decide +kernel
theorem dX1_init_9 : decode cX1_init 9 = .ok (.putfield 11, 3) := by decide +kernel
theorem dX1_init_12 : decode cX1_init 12 = .ok (.aload_n 0, 1) := by decide +kernel
theorem dX1_init_13 : decode cX1_init 13 = .ok (.bipush 7, 2) := by decide +kernel
theorem dX1_init_15 : decode cX1_init 15 = .ok (.newarray .int, 2) := by decide +kernel
theorem dX1_init_17 : decode cX1_init 17 = .ok (.putfield 15, 3) := by decide +kernel
theorem dX1_init_20 : decode cX1_init 20 = .ok (.aload_n 0, 1) := by decide +kernel
theorem dX1_init_21 : decode cX1_init 21 = .ok (.bipush 7, 2) := by decide +kernel
theorem dX1_init_23 : decode cX1_init 23 = .ok (.newarray .int, 2) := by decide +kernel
theorem dX1_init_25 : decode cX1_init 25 = .ok (.putfield 18, 3) := by decide +kernel
theorem dX1_init_28 : decode cX1_init 28 = .ok (.aload_n 0, 1) := by decide +kernel
theorem dX1_init_29 : decode cX1_init 29 = .ok (.bipush 6, 2) := by decide +kernel
theorem dX1_init_31 : decode cX1_init 31 = .ok (.newarray .int, 2) := by decide +kernel
theorem dX1_init_33 : decode cX1_init 33 = .ok (.putfield 21, 3) := by decide +kernel
theorem dX1_init_36 : decode cX1_init 36 = .ok (.aload_n 0, 1) := by decide +kernel
theorem dX1_init_37 : decode cX1_init 37 = .ok (.bipush 6, 2) := by decide +kernel
theorem dX1_init_39 : decode cX1_init 39 = .ok (.newarray .int, 2) := by decide +kernel
theorem dX1_init_41 : decode cX1_init 41 = .ok (.putfield 24, 3) := by decide +kernel
theorem dX1_init_44 : decode cX1_init 44 = .ok (.aload_n 0, 1) := by decide +kernel
theorem dX1_init_45 : decode cX1_init 45 = .ok (.bipush 6, 2) := by decide +kernel
theorem dX1_init_47 : decode cX1_init 47 = .ok (.newarray .int, 2) := by decide +kernel
theorem dX1_init_49 : decode cX1_init 49 = .ok (.putfield 27, 3) := by decide +kernel
theorem dX1_init_52 : decode cX1_init 52 = .ok (.aload_n 0, 1) := by decide +kernel
theorem dX1_init_53 : decode cX1_init 53 = .ok (.sipush 128, 3) := by decide +kernel
theorem dX1_init_56 : decode cX1_init 56 = .ok (.newarray .int, 2) := by decide +kernel
theorem dX1_init_58 : decode cX1_init 58 = .ok (.putfield 30, 3) := by decide +kernel
theorem dX1_init_61 : decode cX1_init 61 = .ok (.aload_n 0, 1) := by decide +kernel
theorem dX1_init_62 : decode cX1_init 62 = .ok (.sipush 128, 3) := by decide +kernel
theorem dX1_init_65 : decode cX1_init 65 = .ok (.newarray .boolean, 2) := by decide +kernel
theorem dX1_init_67 : decode cX1_init 67 = .ok (.putfield 33, 3) := by decide +kernel
theorem dX1_init_70 : decode cX1_init 70 = .ok (.return_, 1) := by decide +kernel
theorem dX1_begin_0 : decode cX1_begin 0 = .ok (.aload_n 0, 1) := by decide +kernel
theorem dX1_begin_1 : decode cX1_begin 1 = .ok (.iconst 0, 1) := by decide +kernel
theorem dX1_begin_2 : decode cX1_begin 2 = .ok (.putfield 37, 3) := by decide +kernel
theorem dX1_begin_5 : decode cX1_begin 5 = .ok (.aload_n 0, 1) := by decide +kernel
theorem dX1_begin_6 : decode cX1_begin 6 = .ok (.iconst 0, 1) := by decide +kernel
theorem dX1_begin_7 : decode cX1_begin 7 = .ok (.putfield 41, 3) := by decide +kernel
theorem dX1_begin_10 : decode cX1_begin 10 = .ok (.return_, 1) := by decide +kernel
theorem dX1_addHand_0 : decode cX1_addHand 0 = .ok (.aload_n 0, 1) := by decide +kernel
theorem dX1_addHand_1 : decode cX1_addHand 1 = .ok (.getfield 41, 3) := by decide +kernel
theorem dX1_addHand_4 : decode cX1_addHand 4 = .ok (.ifCond .lt 52, 3) := by decide +kernel
theorem dX1_addHand_7 : decode cX1_addHand 7 = .ok (.aload_n 0, 1) := by decide +kernel
theorem dX1_addHand_8 : decode cX1_addHand 8 = .ok (.getfield 41, 3) := by decide +kernel
theorem dX1_addHand_11 : decode cX1_addHand 11 = .ok (.bipush 6, 2) := by decide +kernel
theorem dX1_addHand_13 : decode cX1_addHand 13 = .ok (.if_icmp .ge 43, 3) := by decide +kernel
theorem dX1_addHand_16 : decode cX1_addHand 16 = .ok (.aload_n 0, 1) := by decide +kernel
theorem dX1_addHand_17 : decode cX1_addHand 17 = .ok (.getfield 21, 3) := by decide +kernel
theorem dX1_addHand_20 : decode cX1_addHand 20 = .ok (.aload_n 0, 1) := by decide +kernel
theorem dX1_addHand_21 : decode cX1_addHand 21 = .ok (.getfield 41, 3) := by decide +kernel
theorem dX1_addHand_24 : decode cX1_addHand 24 = .ok (.iload_n 1, 1) := by decide +kernel
theorem dX1_addHand_25 : decode cX1_addHand 25 = .ok (.iastore, 1) := by decide +kernel
theorem dX1_addHand_26 : decode cX1_addHand 26 = .ok (.aload_n 0, 1) := by decide +kernel
theorem dX1_addHand_27 : decode cX1_addHand 27 = .ok (.getfield 24, 3) := by decide +kernel
theorem dX1_addHand_30 : decode cX1_addHand 30 = .ok (.aload_n 0, 1) := by decide +kernel
theorem dX1_addHand_31 : decode cX1_addHand 31 = .ok (.getfield 41, 3) := by decide +kernel
theorem dX1_addHand_34 : decode cX1_addHand 34 = .ok (.iload_n 2, 1) := by decide +kernel
theorem dX1_addHand_35 : decode cX1_addHand 35 = .ok (.iastore, 1) := by decide +kernel
theorem dX1_addHand_36 : decode cX1_addHand 36 = .ok (.aload_n 0, 1) := by decide +kernel
theorem dX1_addHand_37 : decode cX1_addHand 37 = .ok (.getfield 27, 3) := by decide +kernel
theorem dX1_addHand_40 : decode cX1_addHand 40 = .ok (.aload_n 0, 1) := by decide +kernel
theorem dX1_addHand_41 : decode cX1_addHand 41 = .ok (.getfield 41, 3) := by decide +kernel
theorem dX1_addHand_44 : decode cX1_addHand 44 = .ok (.iconst 0, 1) := by decide +kernel
theorem dX1_addHand_45 : decode cX1_addHand 45 = .ok (.iastore, 1) := by decide +kernel
theorem dX1_addHand_46 : decode cX1_addHand 46 = .ok (.aload_n 0, 1) := by decide +kernel
theorem dX1_addHand_47 : decode cX1_addHand 47 = .ok (.dup, 1) := by decide +kernel
theorem dX1_addHand_48 : decode cX1_addHand 48 = .ok (.getfield 41, 3) := by decide +kernel
theorem dX1_addHand_51 : decode cX1_addHand 51 = .ok (.iconst 1, 1) := by decide +kernel
theorem dX1_addHand_52 : decode cX1_addHand 52 = .ok (.iadd, 1) := by decide +kernel
theorem dX1_addHand_53 : decode cX1_addHand 53 = .ok (.putfield 41, 3) := by decide +kernel
theorem dX1_addHand_56 : decode cX1_addHand 56 = .ok (.return_, 1) := by decide +kernel
theorem dX1_addArticle_0 : decode cX1_addArticle 0 = .ok (.aload_n 0, 1) := by decide +kernel
theorem dX1_addArticle_1 : decode cX1_addArticle 1 = .ok (.getfield 37, 3) := by decide +kernel
theorem dX1_addArticle_4 : decode cX1_addArticle 4 = .ok (.ifCond .lt 52, 3) := by decide +kernel
theorem dX1_addArticle_7 : decode cX1_addArticle 7 = .ok (.aload_n 0, 1) := by decide +kernel
theorem dX1_addArticle_8 : decode cX1_addArticle 8 = .ok (.getfield 37, 3) := by decide +kernel
theorem dX1_addArticle_11 : decode cX1_addArticle 11 = .ok (.bipush 7, 2) := by decide +kernel
theorem dX1_addArticle_13 : decode cX1_addArticle 13 = .ok (.if_icmp .ge 43, 3) := by decide +kernel
theorem dX1_addArticle_16 : decode cX1_addArticle 16 = .ok (.aload_n 0, 1) := by decide +kernel
theorem dX1_addArticle_17 : decode cX1_addArticle 17 = .ok (.getfield 11, 3) := by decide +kernel
theorem dX1_addArticle_20 : decode cX1_addArticle 20 = .ok (.aload_n 0, 1) := by decide +kernel
theorem dX1_addArticle_21 : decode cX1_addArticle 21 = .ok (.getfield 37, 3) := by decide +kernel
theorem dX1_addArticle_24 : decode cX1_addArticle 24 = .ok (.iload_n 1, 1) := by decide +kernel
theorem dX1_addArticle_25 : decode cX1_addArticle 25 = .ok (.iastore, 1) := by decide +kernel
theorem dX1_addArticle_26 : decode cX1_addArticle 26 = .ok (.aload_n 0, 1) := by decide +kernel
theorem dX1_addArticle_27 : decode cX1_addArticle 27 = .ok (.getfield 15, 3) := by decide +kernel
theorem dX1_addArticle_30 : decode cX1_addArticle 30 = .ok (.aload_n 0, 1) := by decide +kernel
theorem dX1_addArticle_31 : decode cX1_addArticle 31 = .ok (.getfield 37, 3) := by decide +kernel
theorem dX1_addArticle_34 : decode cX1_addArticle 34 = .ok (.iload_n 2, 1) := by decide +kernel
theorem dX1_addArticle_35 : decode cX1_addArticle 35 = .ok (.iastore, 1) := by decide +kernel
theorem dX1_addArticle_36 : decode cX1_addArticle 36 = .ok (.aload_n 0, 1) := by decide +kernel
theorem dX1_addArticle_37 : decode cX1_addArticle 37 = .ok (.getfield 18, 3) := by decide +kernel
theorem dX1_addArticle_40 : decode cX1_addArticle 40 = .ok (.aload_n 0, 1) := by decide +kernel
theorem dX1_addArticle_41 : decode cX1_addArticle 41 = .ok (.getfield 37, 3) := by decide +kernel
theorem dX1_addArticle_44 : decode cX1_addArticle 44 = .ok (.iconst (-1), 1) := by decide +kernel
theorem dX1_addArticle_45 : decode cX1_addArticle 45 = .ok (.iastore, 1) := by decide +kernel
theorem dX1_addArticle_46 : decode cX1_addArticle 46 = .ok (.aload_n 0, 1) := by decide +kernel
theorem dX1_addArticle_47 : decode cX1_addArticle 47 = .ok (.dup, 1) := by decide +kernel
theorem dX1_addArticle_48 : decode cX1_addArticle 48 = .ok (.getfield 37, 3) := by decide +kernel
theorem dX1_addArticle_51 : decode cX1_addArticle 51 = .ok (.iconst 1, 1) := by decide +kernel
theorem dX1_addArticle_52 : decode cX1_addArticle 52 = .ok (.iadd, 1) := by decide +kernel
theorem dX1_addArticle_53 : decode cX1_addArticle 53 = .ok (.putfield 37, 3) := by decide +kernel
theorem dX1_addArticle_56 : decode cX1_addArticle 56 = .ok (.return_, 1) := by decide +kernel
theorem dX1_handNumber_0 : decode cX1_handNumber 0 = .ok (.iload_n 1, 1) := by decide +kernel
theorem dX1_handNumber_1 : decode cX1_handNumber 1 = .ok (.ifCond .lt 18, 3) := by decide +kernel
theorem dX1_handNumber_4 : decode cX1_handNumber 4 = .ok (.iload_n 1, 1) := by decide +kernel
theorem dX1_handNumber_5 : decode cX1_handNumber 5 = .ok (.bipush 6, 2) := by decide +kernel
theorem dX1_handNumber_7 : decode cX1_handNumber 7 = .ok (.if_icmp .ge 12, 3) := by decide +kernel
theorem dX1_handNumber_10 : decode cX1_handNumber 10 = .ok (.aload_n 0, 1) := by decide +kernel
theorem dX1_handNumber_11 : decode cX1_handNumber 11 = .ok (.getfield 21, 3) := by decide +kernel
theorem dX1_handNumber_14 : decode cX1_handNumber 14 = .ok (.iload_n 1, 1) := by decide +kernel
theorem dX1_handNumber_15 : decode cX1_handNumber 15 = .ok (.iaload, 1) := by decide +kernel
theorem dX1_handNumber_16 : decode cX1_handNumber 16 = .ok (.goto 4, 3) := by decide +kernel
theorem dX1_handNumber_19 : decode cX1_handNumber 19 = .ok (.iconst (-1), 1) := by decide +kernel
theorem dX1_handNumber_20 : decode cX1_handNumber 20 = .ok (.ireturn, 1) := by decide +kernel
theorem dX1_allow_0 : decode cX1_allow 0 = .ok (.iload_n 1, 1) := by decide +kernel
theorem dX1_allow_1 : decode cX1_allow 1 = .ok (.ifCond .lt 33, 3) := by decide +kernel
theorem dX1_allow_4 : decode cX1_allow 4 = .ok (.iload_n 1, 1) := by decide +kernel
theorem dX1_allow_5 : decode cX1_allow 5 = .ok (.bipush 6, 2) := by decide +kernel
theorem dX1_allow_7 : decode cX1_allow 7 = .ok (.if_icmp .ge 27, 3) := by decide +kernel
theorem dX1_allow_10 : decode cX1_allow 10 = .ok (.aload_n 0, 1) := by decide +kernel
theorem dX1_allow_11 : decode cX1_allow 11 = .ok (.getfield 37, 3) := by decide +kernel
theorem dX1_allow_14 : decode cX1_allow 14 = .ok (.ifCond .le 20, 3) := by decide +kernel
theorem dX1_allow_17 : decode cX1_allow 17 = .ok (.aload_n 0, 1) := by decide +kernel
theorem dX1_allow_18 : decode cX1_allow 18 = .ok (.getfield 27, 3) := by decide +kernel
theorem dX1_allow_21 : decode cX1_allow 21 = .ok (.iload_n 1, 1) := by decide +kernel
theorem dX1_allow_22 : decode cX1_allow 22 = .ok (.dup2, 1) := by decide +kernel
theorem dX1_allow_23 : decode cX1_allow 23 = .ok (.iaload, 1) := by decide +kernel
theorem dX1_allow_24 : decode cX1_allow 24 = .ok (.iconst 1, 1) := by decide +kernel
theorem dX1_allow_25 : decode cX1_allow 25 = .ok (.aload_n 0, 1) := by decide +kernel
theorem dX1_allow_26 : decode cX1_allow 26 = .ok (.getfield 37, 3) := by decide +kernel
theorem dX1_allow_29 : decode cX1_allow 29 = .ok (.iconst 1, 1) := by decide +kernel
theorem dX1_allow_30 : decode cX1_allow 30 = .ok (.isub, 1) := by decide +kernel
theorem dX1_allow_31 : decode cX1_allow 31 = .ok (.ishl, 1) := by decide +kernel
theorem dX1_allow_32 : decode cX1_allow 32 = .ok (.ior, 1) := by decide +kernel
theorem dX1_allow_33 : decode cX1_allow 33 = .ok (.iastore, 1) := by decide +kernel
theorem dX1_allow_34 : decode cX1_allow 34 = .ok (.return_, 1) := by decide +kernel
set_option maxRecDepth 20000 in
theorem ggX1_handOf_X1_handNumber : GoodIn wsX1_handOf wsX1_handNumber := goodIn_r _ [8, 9, 10, 11, 12, 13, 14, 15, 16, 17, 18, 19] (by decide +kernel) (by decide +kernel)
set_option maxRecDepth 20000 in
theorem gX1_handOf_X1_handNumber : GoodIn wsX1_handOf (wsV RX1 44 RX1 yX1_handNumber wsX1_handNumber) := goodIn_app (goodIn_of _ (by decide +kernel)) ggX1_handOf_X1_handNumber
theorem dX1_handOf_0 : decode cX1_handOf 0 = .ok (.iconst 0, 1) := by decide +kernel
theorem dX1_handOf_1 : decode cX1_handOf 1 = .ok (.istore_n 2, 1) := by decide +kernel
theorem dX1_handOf_2 : decode cX1_handOf 2 = .ok (.iload_n 2, 1) := by decide +kernel
theorem dX1_handOf_3 : decode cX1_handOf 3 = .ok (.aload_n 0, 1) := by decide +kernel
theorem dX1_handOf_4 : decode cX1_handOf 4 = .ok (.getfield 37, 3) := by decide +kernel
theorem dX1_handOf_7 : decode cX1_handOf 7 = .ok (.if_icmp .ge 36, 3) := by decide +kernel
theorem dX1_handOf_10 : decode cX1_handOf 10 = .ok (.iload_n 2, 1) := by decide +kernel
theorem dX1_handOf_11 : decode cX1_handOf 11 = .ok (.bipush 7, 2) := by decide +kernel
theorem dX1_handOf_13 : decode cX1_handOf 13 = .ok (.if_icmp .ge 30, 3) := by decide +kernel
theorem dX1_handOf_16 : decode cX1_handOf 16 = .ok (.aload_n 0, 1) := by decide +kernel
theorem dX1_handOf_17 : decode cX1_handOf 17 = .ok (.getfield 11, 3) := by decide +kernel
theorem dX1_handOf_20 : decode cX1_handOf 20 = .ok (.iload_n 2, 1) := by decide +kernel
theorem dX1_handOf_21 : decode cX1_handOf 21 = .ok (.iaload, 1) := by decide +kernel
theorem dX1_handOf_22 : decode cX1_handOf 22 = .ok (.iload_n 1, 1) := by decide +kernel
theorem dX1_handOf_23 : decode cX1_handOf 23 = .ok (.if_icmp .ne 14, 3) := by decide +kernel
theorem dX1_handOf_26 : decode cX1_handOf 26 = .ok (.aload_n 0, 1) := by decide +kernel
theorem dX1_handOf_27 : decode cX1_handOf 27 = .ok (.aload_n 0, 1) := by decide +kernel
theorem dX1_handOf_28 : decode cX1_handOf 28 = .ok (.getfield 18, 3) := by decide +kernel
theorem dX1_handOf_31 : decode cX1_handOf 31 = .ok (.iload_n 2, 1) := by decide +kernel
theorem dX1_handOf_32 : decode cX1_handOf 32 = .ok (.iaload, 1) := by decide +kernel
theorem dX1_handOf_33 : decode cX1_handOf 33 = .ok (.invokevirtual 44, 3) := by decide +kernel
theorem dX1_handOf_36 : decode cX1_handOf 36 = .ok (.ireturn, 1) := by decide +kernel
theorem dX1_handOf_37 : decode cX1_handOf 37 = .ok (.iinc 2 1, 3) := by decide +kernel
theorem dX1_handOf_40 : decode cX1_handOf 40 = .ok (.goto (-38), 3) := by decide +kernel
theorem dX1_handOf_43 : decode cX1_handOf 43 = .ok (.iconst (-1), 1) := by decide +kernel
theorem dX1_handOf_44 : decode cX1_handOf 44 = .ok (.ireturn, 1) := by decide +kernel
set_option maxRecDepth 20000 in
theorem ggX1_choose_X1_bestFrom : GoodIn wsX1_choose wsX1_bestFrom := goodIn_r _ [8, 1, 9, 10, 11, 12, 13, 14, 15, 16, 17, 18, 19, 20, 21, 22, 23, 7, 24, 2, 25, 26, 27, 28, 29, 30, 31, 32, 33, 34, 35, 36, 37, 38, 39, 44, 45, 46, 47, 48, 49, 50, 51, 52, 53] (by decide +kernel) (by decide +kernel)
set_option maxRecDepth 20000 in
theorem gX1_choose_X1_bestFrom : GoodIn wsX1_choose (wsV RX1 48 RX1 yX1_bestFrom wsX1_bestFrom) := goodIn_app (goodIn_of _ (by decide +kernel)) ggX1_choose_X1_bestFrom
set_option maxRecDepth 20000 in
theorem ggX1_choose_X1_firstHandFor : GoodIn wsX1_choose wsX1_firstHandFor := goodIn_r _ [43, 17, 18, 2, 19, 4, 5, 6, 7, 8, 1, 9, 10, 11, 12, 13, 14, 15, 16, 20, 21, 22, 23, 24, 25, 26, 27, 28, 29, 30, 31, 32, 33, 34, 35, 36, 37, 38, 39, 44, 45, 46, 47, 48, 49, 50, 51, 52, 53] (by decide +kernel) (by decide +kernel)
set_option maxRecDepth 20000 in
theorem gX1_choose_X1_firstHandFor : GoodIn wsX1_choose (wsV RX1 51 RX1 yX1_firstHandFor wsX1_firstHandFor) := goodIn_app (goodIn_of _ (by decide +kernel)) ggX1_choose_X1_firstHandFor
theorem dX1_choose_0 : decode cX1_choose 0 = .ok (.aload_n 0, 1) := by decide +kernel
theorem dX1_choose_1 : decode cX1_choose 1 = .ok (.iconst 0, 1) := by decide +kernel
theorem dX1_choose_2 : decode cX1_choose 2 = .ok (.invokevirtual 48, 3) := by decide +kernel
theorem dX1_choose_5 : decode cX1_choose 5 = .ok (.istore_n 1, 1) := by decide +kernel
theorem dX1_choose_6 : decode cX1_choose 6 = .ok (.iconst 0, 1) := by decide +kernel
theorem dX1_choose_7 : decode cX1_choose 7 = .ok (.istore_n 2, 1) := by decide +kernel
theorem dX1_choose_8 : decode cX1_choose 8 = .ok (.iconst 0, 1) := by decide +kernel
theorem dX1_choose_9 : decode cX1_choose 9 = .ok (.istore_n 3, 1) := by decide +kernel
theorem dX1_choose_10 : decode cX1_choose 10 = .ok (.iload_n 3, 1) := by decide +kernel
theorem dX1_choose_11 : decode cX1_choose 11 = .ok (.aload_n 0, 1) := by decide +kernel
theorem dX1_choose_12 : decode cX1_choose 12 = .ok (.getfield 37, 3) := by decide +kernel
theorem dX1_choose_15 : decode cX1_choose 15 = .ok (.if_icmp .ge 60, 3) := by decide +kernel
theorem dX1_choose_18 : decode cX1_choose 18 = .ok (.iload_n 3, 1) := by decide +kernel
theorem dX1_choose_19 : decode cX1_choose 19 = .ok (.bipush 7, 2) := by decide +kernel
theorem dX1_choose_21 : decode cX1_choose 21 = .ok (.if_icmp .ge 54, 3) := by decide +kernel
theorem dX1_choose_24 : decode cX1_choose 24 = .ok (.sipush 10000, 3) := by decide +kernel
theorem dX1_choose_27 : decode cX1_choose 27 = .ok (.aload_n 0, 1) := by decide +kernel
theorem dX1_choose_28 : decode cX1_choose 28 = .ok (.getfield 15, 3) := by decide +kernel
theorem dX1_choose_31 : decode cX1_choose 31 = .ok (.iload_n 3, 1) := by decide +kernel
theorem dX1_choose_32 : decode cX1_choose 32 = .ok (.iaload, 1) := by decide +kernel
theorem dX1_choose_33 : decode cX1_choose 33 = .ok (.isub, 1) := by decide +kernel
theorem dX1_choose_34 : decode cX1_choose 34 = .ok (.istore 4, 2) := by decide +kernel
theorem dX1_choose_36 : decode cX1_choose 36 = .ok (.aload_n 0, 1) := by decide +kernel
theorem dX1_choose_37 : decode cX1_choose 37 = .ok (.getfield 18, 3) := by decide +kernel
theorem dX1_choose_40 : decode cX1_choose 40 = .ok (.iload_n 3, 1) := by decide +kernel
theorem dX1_choose_41 : decode cX1_choose 41 = .ok (.aload_n 0, 1) := by decide +kernel
theorem dX1_choose_42 : decode cX1_choose 42 = .ok (.iload_n 3, 1) := by decide +kernel
theorem dX1_choose_43 : decode cX1_choose 43 = .ok (.iload_n 1, 1) := by decide +kernel
theorem dX1_choose_44 : decode cX1_choose 44 = .ok (.iload 4, 2) := by decide +kernel
theorem dX1_choose_46 : decode cX1_choose 46 = .ok (.isub, 1) := by decide +kernel
theorem dX1_choose_47 : decode cX1_choose 47 = .ok (.invokevirtual 51, 3) := by decide +kernel
theorem dX1_choose_50 : decode cX1_choose 50 = .ok (.iastore, 1) := by decide +kernel
theorem dX1_choose_51 : decode cX1_choose 51 = .ok (.aload_n 0, 1) := by decide +kernel
theorem dX1_choose_52 : decode cX1_choose 52 = .ok (.getfield 18, 3) := by decide +kernel
theorem dX1_choose_55 : decode cX1_choose 55 = .ok (.iload_n 3, 1) := by decide +kernel
theorem dX1_choose_56 : decode cX1_choose 56 = .ok (.iaload, 1) := by decide +kernel
theorem dX1_choose_57 : decode cX1_choose 57 = .ok (.iconst (-1), 1) := by decide +kernel
theorem dX1_choose_58 : decode cX1_choose 58 = .ok (.if_icmp .eq 11, 3) := by decide +kernel
theorem dX1_choose_61 : decode cX1_choose 61 = .ok (.iload_n 1, 1) := by decide +kernel
theorem dX1_choose_62 : decode cX1_choose 62 = .ok (.iload 4, 2) := by decide +kernel
theorem dX1_choose_64 : decode cX1_choose 64 = .ok (.isub, 1) := by decide +kernel
theorem dX1_choose_65 : decode cX1_choose 65 = .ok (.istore_n 1, 1) := by decide +kernel
theorem dX1_choose_66 : decode cX1_choose 66 = .ok (.iinc 2 1, 3) := by decide +kernel
theorem dX1_choose_69 : decode cX1_choose 69 = .ok (.iinc 3 1, 3) := by decide +kernel
theorem dX1_choose_72 : decode cX1_choose 72 = .ok (.goto (-62), 3) := by decide +kernel
theorem dX1_choose_75 : decode cX1_choose 75 = .ok (.iload_n 2, 1) := by decide +kernel
theorem dX1_choose_76 : decode cX1_choose 76 = .ok (.ireturn, 1) := by decide +kernel
set_option maxRecDepth 20000 in
theorem ggX1_firstHandFor_X1_bestFrom : GoodIn wsX1_firstHandFor wsX1_bestFrom := goodIn_r _ [9, 10, 11, 12, 13, 14, 15, 16, 17, 18, 1, 2, 4, 19, 20, 21, 22, 8, 23, 3, 24, 25, 26, 27, 28, 29, 30, 31, 32, 33, 34, 35, 36, 37, 38, 39, 40, 41, 42, 43, 44, 45, 46, 47, 48] (by decide +kernel) (by decide +kernel)
set_option maxRecDepth 20000 in
theorem gX1_firstHandFor_X1_bestFrom : GoodIn wsX1_firstHandFor (wsV RX1 48 RX1 yX1_bestFrom wsX1_bestFrom) := goodIn_app (goodIn_of _ (by decide +kernel)) ggX1_firstHandFor_X1_bestFrom
theorem dX1_firstHandFor_0 : decode cX1_firstHandFor 0 = .ok (.iload_n 1, 1) := by decide +kernel
theorem dX1_firstHandFor_1 : decode cX1_firstHandFor 1 = .ok (.ifCond .lt 9, 3) := by decide +kernel
theorem dX1_firstHandFor_4 : decode cX1_firstHandFor 4 = .ok (.iload_n 1, 1) := by decide +kernel
theorem dX1_firstHandFor_5 : decode cX1_firstHandFor 5 = .ok (.bipush 7, 2) := by decide +kernel
theorem dX1_firstHandFor_7 : decode cX1_firstHandFor 7 = .ok (.if_icmp .lt 5, 3) := by decide +kernel
theorem dX1_firstHandFor_10 : decode cX1_firstHandFor 10 = .ok (.iconst (-1), 1) := by decide +kernel
theorem dX1_firstHandFor_11 : decode cX1_firstHandFor 11 = .ok (.ireturn, 1) := by decide +kernel
theorem dX1_firstHandFor_12 : decode cX1_firstHandFor 12 = .ok (.iconst 0, 1) := by decide +kernel
theorem dX1_firstHandFor_13 : decode cX1_firstHandFor 13 = .ok (.istore_n 3, 1) := by decide +kernel
theorem dX1_firstHandFor_14 : decode cX1_firstHandFor 14 = .ok (.iload_n 3, 1) := by decide +kernel
theorem dX1_firstHandFor_15 : decode cX1_firstHandFor 15 = .ok (.aload_n 0, 1) := by decide +kernel
theorem dX1_firstHandFor_16 : decode cX1_firstHandFor 16 = .ok (.getfield 41, 3) := by decide +kernel
theorem dX1_firstHandFor_19 : decode cX1_firstHandFor 19 = .ok (.if_icmp .ge 89, 3) := by decide +kernel
theorem dX1_firstHandFor_22 : decode cX1_firstHandFor 22 = .ok (.iload_n 3, 1) := by decide +kernel
theorem dX1_firstHandFor_23 : decode cX1_firstHandFor 23 = .ok (.bipush 6, 2) := by decide +kernel
theorem dX1_firstHandFor_25 : decode cX1_firstHandFor 25 = .ok (.if_icmp .ge 83, 3) := by decide +kernel
theorem dX1_firstHandFor_28 : decode cX1_firstHandFor 28 = .ok (.aload_n 0, 1) := by decide +kernel
theorem dX1_firstHandFor_29 : decode cX1_firstHandFor 29 = .ok (.getfield 27, 3) := by decide +kernel
theorem dX1_firstHandFor_32 : decode cX1_firstHandFor 32 = .ok (.iload_n 3, 1) := by decide +kernel
theorem dX1_firstHandFor_33 : decode cX1_firstHandFor 33 = .ok (.iaload, 1) := by decide +kernel
theorem dX1_firstHandFor_34 : decode cX1_firstHandFor 34 = .ok (.iload_n 1, 1) := by decide +kernel
theorem dX1_firstHandFor_35 : decode cX1_firstHandFor 35 = .ok (.ishr, 1) := by decide +kernel
theorem dX1_firstHandFor_36 : decode cX1_firstHandFor 36 = .ok (.iconst 1, 1) := by decide +kernel
theorem dX1_firstHandFor_37 : decode cX1_firstHandFor 37 = .ok (.iand, 1) := by decide +kernel
theorem dX1_firstHandFor_38 : decode cX1_firstHandFor 38 = .ok (.ifCond .eq 64, 3) := by decide +kernel
theorem dX1_firstHandFor_41 : decode cX1_firstHandFor 41 = .ok (.aload_n 0, 1) := by decide +kernel
theorem dX1_firstHandFor_42 : decode cX1_firstHandFor 42 = .ok (.getfield 15, 3) := by decide +kernel
theorem dX1_firstHandFor_45 : decode cX1_firstHandFor 45 = .ok (.iload_n 1, 1) := by decide +kernel
theorem dX1_firstHandFor_46 : decode cX1_firstHandFor 46 = .ok (.iaload, 1) := by decide +kernel
theorem dX1_firstHandFor_47 : decode cX1_firstHandFor 47 = .ok (.aload_n 0, 1) := by decide +kernel
theorem dX1_firstHandFor_48 : decode cX1_firstHandFor 48 = .ok (.getfield 24, 3) := by decide +kernel
theorem dX1_firstHandFor_51 : decode cX1_firstHandFor 51 = .ok (.iload_n 3, 1) := by decide +kernel
theorem dX1_firstHandFor_52 : decode cX1_firstHandFor 52 = .ok (.iaload, 1) := by decide +kernel
theorem dX1_firstHandFor_53 : decode cX1_firstHandFor 53 = .ok (.if_icmp .le 6, 3) := by decide +kernel
theorem dX1_firstHandFor_56 : decode cX1_firstHandFor 56 = .ok (.goto 46, 3) := by decide +kernel
theorem dX1_firstHandFor_59 : decode cX1_firstHandFor 59 = .ok (.aload_n 0, 1) := by decide +kernel
theorem dX1_firstHandFor_60 : decode cX1_firstHandFor 60 = .ok (.getfield 24, 3) := by decide +kernel
theorem dX1_firstHandFor_63 : decode cX1_firstHandFor 63 = .ok (.iload_n 3, 1) := by decide +kernel
theorem dX1_firstHandFor_64 : decode cX1_firstHandFor 64 = .ok (.dup2, 1) := by decide +kernel
theorem dX1_firstHandFor_65 : decode cX1_firstHandFor 65 = .ok (.iaload, 1) := by decide +kernel
theorem dX1_firstHandFor_66 : decode cX1_firstHandFor 66 = .ok (.aload_n 0, 1) := by decide +kernel
theorem dX1_firstHandFor_67 : decode cX1_firstHandFor 67 = .ok (.getfield 15, 3) := by decide +kernel
theorem dX1_firstHandFor_70 : decode cX1_firstHandFor 70 = .ok (.iload_n 1, 1) := by decide +kernel
theorem dX1_firstHandFor_71 : decode cX1_firstHandFor 71 = .ok (.iaload, 1) := by decide +kernel
theorem dX1_firstHandFor_72 : decode cX1_firstHandFor 72 = .ok (.isub, 1) := by decide +kernel
theorem dX1_firstHandFor_73 : decode cX1_firstHandFor 73 = .ok (.iastore, 1) := by decide +kernel
theorem dX1_firstHandFor_74 : decode cX1_firstHandFor 74 = .ok (.aload_n 0, 1) := by decide +kernel
theorem dX1_firstHandFor_75 : decode cX1_firstHandFor 75 = .ok (.iload_n 1, 1) := by decide +kernel
theorem dX1_firstHandFor_76 : decode cX1_firstHandFor 76 = .ok (.iconst 1, 1) := by decide +kernel
theorem dX1_firstHandFor_77 : decode cX1_firstHandFor 77 = .ok (.iadd, 1) := by decide +kernel
theorem dX1_firstHandFor_78 : decode cX1_firstHandFor 78 = .ok (.invokevirtual 48, 3) := by decide +kernel
theorem dX1_firstHandFor_81 : decode cX1_firstHandFor 81 = .ok (.iload_n 2, 1) := by decide +kernel
theorem dX1_firstHandFor_82 : decode cX1_firstHandFor 82 = .ok (.if_icmp .ne 5, 3) := by decide +kernel
theorem dX1_firstHandFor_85 : decode cX1_firstHandFor 85 = .ok (.iload_n 3, 1) := by decide +kernel
theorem dX1_firstHandFor_86 : decode cX1_firstHandFor 86 = .ok (.ireturn, 1) := by decide +kernel
theorem dX1_firstHandFor_87 : decode cX1_firstHandFor 87 = .ok (.aload_n 0, 1) := by decide +kernel
theorem dX1_firstHandFor_88 : decode cX1_firstHandFor 88 = .ok (.getfield 24, 3) := by decide +kernel
theorem dX1_firstHandFor_91 : decode cX1_firstHandFor 91 = .ok (.iload_n 3, 1) := by decide +kernel
theorem dX1_firstHandFor_92 : decode cX1_firstHandFor 92 = .ok (.dup2, 1) := by decide +kernel
theorem dX1_firstHandFor_93 : decode cX1_firstHandFor 93 = .ok (.iaload, 1) := by decide +kernel
theorem dX1_firstHandFor_94 : decode cX1_firstHandFor 94 = .ok (.aload_n 0, 1) := by decide +kernel
theorem dX1_firstHandFor_95 : decode cX1_firstHandFor 95 = .ok (.getfield 15, 3) := by decide +kernel
theorem dX1_firstHandFor_98 : decode cX1_firstHandFor 98 = .ok (.iload_n 1, 1) := by decide +kernel
theorem dX1_firstHandFor_99 : decode cX1_firstHandFor 99 = .ok (.iaload, 1) := by decide +kernel
theorem dX1_firstHandFor_100 : decode cX1_firstHandFor 100 = .ok (.iadd, 1) := by decide +kernel
theorem dX1_firstHandFor_101 : decode cX1_firstHandFor 101 = .ok (.iastore, 1) := by decide +kernel
theorem dX1_firstHandFor_102 : decode cX1_firstHandFor 102 = .ok (.iinc 3 1, 3) := by decide +kernel
theorem dX1_firstHandFor_105 : decode cX1_firstHandFor 105 = .ok (.goto (-91), 3) := by decide +kernel
theorem dX1_firstHandFor_108 : decode cX1_firstHandFor 108 = .ok (.iconst (-1), 1) := by decide +kernel
theorem dX1_firstHandFor_109 : decode cX1_firstHandFor 109 = .ok (.ireturn, 1) := by decide +kernel
set_option maxRecDepth 20000 in
theorem ggX1_bestFrom_X1_sumLacks : GoodIn wsX1_bestFrom wsX1_sumLacks := goodIn_r _ [18, 13, 19, 20, 21, 22, 23, 24, 35, 36, 37, 38, 39, 40, 41, 42, 43, 44] (by decide +kernel) (by decide +kernel)
set_option maxRecDepth 20000 in
theorem gX1_bestFrom_X1_sumLacks : GoodIn wsX1_bestFrom (wsV RX1 63 RX1 yX1_sumLacks wsX1_sumLacks) := goodIn_app (goodIn_of _ (by decide +kernel)) ggX1_bestFrom_X1_sumLacks
set_option maxRecDepth 20000 in
theorem ggX1_bestFrom_X1_reachWith : GoodIn wsX1_bestFrom wsX1_reachWith := goodIn_r _ [28, 2, 3, 4, 5, 9, 13, 35, 36, 37, 38, 39, 40, 41, 42, 43, 44] (by decide +kernel) (by decide +kernel)
set_option maxRecDepth 20000 in
theorem gX1_bestFrom_X1_reachWith : GoodIn wsX1_bestFrom (wsV RX1 67 RX1 yX1_reachWith wsX1_reachWith) := goodIn_app (goodIn_of _ (by decide +kernel)) ggX1_bestFrom_X1_reachWith
set_option maxRecDepth 20000 in
theorem ggX1_bestFrom_J6_bitCount_0f7a4 : GoodIn wsX1_bestFrom wsJ6_bitCount_0f7a4 := goodIn_r _ [31, 32, 33, 34] (by decide +kernel) (by decide +kernel)
set_option maxRecDepth 20000 in
theorem gX1_bestFrom_J6_bitCount_0f7a4 : GoodIn wsX1_bestFrom (va_wsS RX1 71 yJ6_bitCount_0f7a4 wsJ6_bitCount_0f7a4) := goodIn_app (goodIn_of _ (by decide +kernel)) ggX1_bestFrom_J6_bitCount_0f7a4
theorem dX1_bestFrom_0 : decode cX1_bestFrom 0 = .ok (.iconst 0, 1) := by decide +kernel
theorem dX1_bestFrom_1 : decode cX1_bestFrom 1 = .ok (.bipush 7, 2) := by decide +kernel
theorem dX1_bestFrom_3 : decode cX1_bestFrom 3 = .ok (.aload_n 0, 1) := by decide +kernel
theorem dX1_bestFrom_4 : decode cX1_bestFrom 4 = .ok (.getfield 37, 3) := by decide +kernel
theorem dX1_bestFrom_7 : decode cX1_bestFrom 7 = .ok (.invokestatic 55, 3) := by decide +kernel
theorem dX1_bestFrom_10 : decode cX1_bestFrom 10 = .ok (.iload_n 1, 1) := by decide +kernel
theorem dX1_bestFrom_11 : decode cX1_bestFrom 11 = .ok (.isub, 1) := by decide +kernel
theorem dX1_bestFrom_12 : decode cX1_bestFrom 12 = .ok (.invokestatic 60, 3) := by decide +kernel
theorem dX1_bestFrom_15 : decode cX1_bestFrom 15 = .ok (.istore_n 2, 1) := by decide +kernel
theorem dX1_bestFrom_16 : decode cX1_bestFrom 16 = .ok (.sipush 128, 3) := by decide +kernel
theorem dX1_bestFrom_19 : decode cX1_bestFrom 19 = .ok (.iconst 1, 1) := by decide +kernel
theorem dX1_bestFrom_20 : decode cX1_bestFrom 20 = .ok (.iload_n 2, 1) := by decide +kernel
theorem dX1_bestFrom_21 : decode cX1_bestFrom 21 = .ok (.ishl, 1) := by decide +kernel
theorem dX1_bestFrom_22 : decode cX1_bestFrom 22 = .ok (.invokestatic 55, 3) := by decide +kernel
theorem dX1_bestFrom_25 : decode cX1_bestFrom 25 = .ok (.istore_n 3, 1) := by decide +kernel
theorem dX1_bestFrom_26 : decode cX1_bestFrom 26 = .ok (.aload_n 0, 1) := by decide +kernel
theorem dX1_bestFrom_27 : decode cX1_bestFrom 27 = .ok (.iload_n 1, 1) := by decide +kernel
theorem dX1_bestFrom_28 : decode cX1_bestFrom 28 = .ok (.iload_n 3, 1) := by decide +kernel
theorem dX1_bestFrom_29 : decode cX1_bestFrom 29 = .ok (.invokevirtual 63, 3) := by decide +kernel
theorem dX1_bestFrom_32 : decode cX1_bestFrom 32 = .ok (.iconst 0, 1) := by decide +kernel
theorem dX1_bestFrom_33 : decode cX1_bestFrom 33 = .ok (.istore 4, 2) := by decide +kernel
theorem dX1_bestFrom_35 : decode cX1_bestFrom 35 = .ok (.iload 4, 2) := by decide +kernel
theorem dX1_bestFrom_37 : decode cX1_bestFrom 37 = .ok (.sipush 128, 3) := by decide +kernel
theorem dX1_bestFrom_40 : decode cX1_bestFrom 40 = .ok (.if_icmp .ge 26, 3) := by decide +kernel
theorem dX1_bestFrom_43 : decode cX1_bestFrom 43 = .ok (.aload_n 0, 1) := by decide +kernel
theorem dX1_bestFrom_44 : decode cX1_bestFrom 44 = .ok (.getfield 33, 3) := by decide +kernel
theorem dX1_bestFrom_47 : decode cX1_bestFrom 47 = .ok (.iload 4, 2) := by decide +kernel
theorem dX1_bestFrom_49 : decode cX1_bestFrom 49 = .ok (.iload 4, 2) := by decide +kernel
theorem dX1_bestFrom_51 : decode cX1_bestFrom 51 = .ok (.ifCond .ne 7, 3) := by decide +kernel
theorem dX1_bestFrom_54 : decode cX1_bestFrom 54 = .ok (.iconst 1, 1) := by decide +kernel
theorem dX1_bestFrom_55 : decode cX1_bestFrom 55 = .ok (.goto 4, 3) := by decide +kernel
theorem dX1_bestFrom_58 : decode cX1_bestFrom 58 = .ok (.iconst 0, 1) := by decide +kernel
theorem dX1_bestFrom_59 : decode cX1_bestFrom 59 = .ok (.bastore, 1) := by decide +kernel
theorem dX1_bestFrom_60 : decode cX1_bestFrom 60 = .ok (.iinc 4 1, 3) := by decide +kernel
theorem dX1_bestFrom_63 : decode cX1_bestFrom 63 = .ok (.goto (-28), 3) := by decide +kernel
theorem dX1_bestFrom_66 : decode cX1_bestFrom 66 = .ok (.iconst 0, 1) := by decide +kernel
theorem dX1_bestFrom_67 : decode cX1_bestFrom 67 = .ok (.istore 4, 2) := by decide +kernel
theorem dX1_bestFrom_69 : decode cX1_bestFrom 69 = .ok (.iload 4, 2) := by decide +kernel
theorem dX1_bestFrom_71 : decode cX1_bestFrom 71 = .ok (.aload_n 0, 1) := by decide +kernel
theorem dX1_bestFrom_72 : decode cX1_bestFrom 72 = .ok (.getfield 41, 3) := by decide +kernel
theorem dX1_bestFrom_75 : decode cX1_bestFrom 75 = .ok (.if_icmp .ge 37, 3) := by decide +kernel
theorem dX1_bestFrom_78 : decode cX1_bestFrom 78 = .ok (.iload 4, 2) := by decide +kernel
theorem dX1_bestFrom_80 : decode cX1_bestFrom 80 = .ok (.bipush 6, 2) := by decide +kernel
theorem dX1_bestFrom_82 : decode cX1_bestFrom 82 = .ok (.if_icmp .ge 30, 3) := by decide +kernel
theorem dX1_bestFrom_85 : decode cX1_bestFrom 85 = .ok (.aload_n 0, 1) := by decide +kernel
theorem dX1_bestFrom_86 : decode cX1_bestFrom 86 = .ok (.aload_n 0, 1) := by decide +kernel
theorem dX1_bestFrom_87 : decode cX1_bestFrom 87 = .ok (.getfield 27, 3) := by decide +kernel
theorem dX1_bestFrom_90 : decode cX1_bestFrom 90 = .ok (.iload 4, 2) := by decide +kernel
theorem dX1_bestFrom_92 : decode cX1_bestFrom 92 = .ok (.iaload, 1) := by decide +kernel
theorem dX1_bestFrom_93 : decode cX1_bestFrom 93 = .ok (.iload_n 1, 1) := by decide +kernel
theorem dX1_bestFrom_94 : decode cX1_bestFrom 94 = .ok (.ishr, 1) := by decide +kernel
theorem dX1_bestFrom_95 : decode cX1_bestFrom 95 = .ok (.aload_n 0, 1) := by decide +kernel
theorem dX1_bestFrom_96 : decode cX1_bestFrom 96 = .ok (.getfield 24, 3) := by decide +kernel
theorem dX1_bestFrom_99 : decode cX1_bestFrom 99 = .ok (.iload 4, 2) := by decide +kernel
theorem dX1_bestFrom_101 : decode cX1_bestFrom 101 = .ok (.iaload, 1) := by decide +kernel
theorem dX1_bestFrom_102 : decode cX1_bestFrom 102 = .ok (.iload_n 3, 1) := by decide +kernel
theorem dX1_bestFrom_103 : decode cX1_bestFrom 103 = .ok (.invokevirtual 67, 3) := by decide +kernel
theorem dX1_bestFrom_106 : decode cX1_bestFrom 106 = .ok (.iinc 4 1, 3) := by decide +kernel
theorem dX1_bestFrom_109 : decode cX1_bestFrom 109 = .ok (.goto (-40), 3) := by decide +kernel
theorem dX1_bestFrom_112 : decode cX1_bestFrom 112 = .ok (.iconst 0, 1) := by decide +kernel
theorem dX1_bestFrom_113 : decode cX1_bestFrom 113 = .ok (.istore 4, 2) := by decide +kernel
theorem dX1_bestFrom_115 : decode cX1_bestFrom 115 = .ok (.iconst 0, 1) := by decide +kernel
theorem dX1_bestFrom_116 : decode cX1_bestFrom 116 = .ok (.istore 5, 2) := by decide +kernel
theorem dX1_bestFrom_118 : decode cX1_bestFrom 118 = .ok (.iload 5, 2) := by decide +kernel
theorem dX1_bestFrom_120 : decode cX1_bestFrom 120 = .ok (.iload_n 3, 1) := by decide +kernel
theorem dX1_bestFrom_121 : decode cX1_bestFrom 121 = .ok (.if_icmp .ge 51, 3) := by decide +kernel
theorem dX1_bestFrom_124 : decode cX1_bestFrom 124 = .ok (.iload 5, 2) := by decide +kernel
theorem dX1_bestFrom_126 : decode cX1_bestFrom 126 = .ok (.sipush 128, 3) := by decide +kernel
theorem dX1_bestFrom_129 : decode cX1_bestFrom 129 = .ok (.if_icmp .ge 43, 3) := by decide +kernel
theorem dX1_bestFrom_132 : decode cX1_bestFrom 132 = .ok (.aload_n 0, 1) := by decide +kernel
theorem dX1_bestFrom_133 : decode cX1_bestFrom 133 = .ok (.getfield 33, 3) := by decide +kernel
theorem dX1_bestFrom_136 : decode cX1_bestFrom 136 = .ok (.iload 5, 2) := by decide +kernel
theorem dX1_bestFrom_138 : decode cX1_bestFrom 138 = .ok (.baload, 1) := by decide +kernel
theorem dX1_bestFrom_139 : decode cX1_bestFrom 139 = .ok (.ifCond .eq 27, 3) := by decide +kernel
theorem dX1_bestFrom_142 : decode cX1_bestFrom 142 = .ok (.iload 4, 2) := by decide +kernel
theorem dX1_bestFrom_144 : decode cX1_bestFrom 144 = .ok (.sipush 10000, 3) := by decide +kernel
theorem dX1_bestFrom_147 : decode cX1_bestFrom 147 = .ok (.iload 5, 2) := by decide +kernel
theorem dX1_bestFrom_149 : decode cX1_bestFrom 149 = .ok (.invokestatic 71, 3) := by decide +kernel
theorem dX1_bestFrom_152 : decode cX1_bestFrom 152 = .ok (.imul, 1) := by decide +kernel
theorem dX1_bestFrom_153 : decode cX1_bestFrom 153 = .ok (.aload_n 0, 1) := by decide +kernel
theorem dX1_bestFrom_154 : decode cX1_bestFrom 154 = .ok (.getfield 30, 3) := by decide +kernel
theorem dX1_bestFrom_157 : decode cX1_bestFrom 157 = .ok (.iload 5, 2) := by decide +kernel
theorem dX1_bestFrom_159 : decode cX1_bestFrom 159 = .ok (.iaload, 1) := by decide +kernel
theorem dX1_bestFrom_160 : decode cX1_bestFrom 160 = .ok (.isub, 1) := by decide +kernel
theorem dX1_bestFrom_161 : decode cX1_bestFrom 161 = .ok (.invokestatic 60, 3) := by decide +kernel
theorem dX1_bestFrom_164 : decode cX1_bestFrom 164 = .ok (.istore 4, 2) := by decide +kernel
theorem dX1_bestFrom_166 : decode cX1_bestFrom 166 = .ok (.iinc 5 1, 3) := by decide +kernel
theorem dX1_bestFrom_169 : decode cX1_bestFrom 169 = .ok (.goto (-51), 3) := by decide +kernel
theorem dX1_bestFrom_172 : decode cX1_bestFrom 172 = .ok (.iload 4, 2) := by decide +kernel
theorem dX1_bestFrom_174 : decode cX1_bestFrom 174 = .ok (.ireturn, 1) := by decide +kernel
set_option maxRecDepth 20000 in
theorem ggX1_sumLacks_J6_numberOfTrailingZeros_0f7a4 : GoodIn wsX1_sumLacks wsJ6_numberOfTrailingZeros_0f7a4 := goodIn_r _ [6, 7] (by decide +kernel) (by decide +kernel)
set_option maxRecDepth 20000 in
theorem gX1_sumLacks_J6_numberOfTrailingZeros_0f7a4 : GoodIn wsX1_sumLacks (va_wsS RX1 76 yJ6_numberOfTrailingZeros_0f7a4 wsJ6_numberOfTrailingZeros_0f7a4) := goodIn_app (goodIn_of _ (by decide +kernel)) ggX1_sumLacks_J6_numberOfTrailingZeros_0f7a4
theorem dX1_sumLacks_0 : decode cX1_sumLacks 0 = .ok (.aload_n 0, 1) := by decide +kernel
theorem dX1_sumLacks_1 : decode cX1_sumLacks 1 = .ok (.getfield 30, 3) := by decide +kernel
theorem dX1_sumLacks_4 : decode cX1_sumLacks 4 = .ok (.iconst 0, 1) := by decide +kernel
theorem dX1_sumLacks_5 : decode cX1_sumLacks 5 = .ok (.iconst 0, 1) := by decide +kernel
theorem dX1_sumLacks_6 : decode cX1_sumLacks 6 = .ok (.iastore, 1) := by decide +kernel
theorem dX1_sumLacks_7 : decode cX1_sumLacks 7 = .ok (.iconst 1, 1) := by decide +kernel
theorem dX1_sumLacks_8 : decode cX1_sumLacks 8 = .ok (.istore_n 3, 1) := by decide +kernel
theorem dX1_sumLacks_9 : decode cX1_sumLacks 9 = .ok (.iload_n 3, 1) := by decide +kernel
theorem dX1_sumLacks_10 : decode cX1_sumLacks 10 = .ok (.iload_n 2, 1) := by decide +kernel
theorem dX1_sumLacks_11 : decode cX1_sumLacks 11 = .ok (.if_icmp .ge 64, 3) := by decide +kernel
theorem dX1_sumLacks_14 : decode cX1_sumLacks 14 = .ok (.iload_n 3, 1) := by decide +kernel
theorem dX1_sumLacks_15 : decode cX1_sumLacks 15 = .ok (.sipush 128, 3) := by decide +kernel
theorem dX1_sumLacks_18 : decode cX1_sumLacks 18 = .ok (.if_icmp .ge 57, 3) := by decide +kernel
theorem dX1_sumLacks_21 : decode cX1_sumLacks 21 = .ok (.iload_n 1, 1) := by decide +kernel
theorem dX1_sumLacks_22 : decode cX1_sumLacks 22 = .ok (.iload_n 3, 1) := by decide +kernel
theorem dX1_sumLacks_23 : decode cX1_sumLacks 23 = .ok (.invokestatic 76, 3) := by decide +kernel
theorem dX1_sumLacks_26 : decode cX1_sumLacks 26 = .ok (.iadd, 1) := by decide +kernel
theorem dX1_sumLacks_27 : decode cX1_sumLacks 27 = .ok (.istore 4, 2) := by decide +kernel
theorem dX1_sumLacks_29 : decode cX1_sumLacks 29 = .ok (.aload_n 0, 1) := by decide +kernel
theorem dX1_sumLacks_30 : decode cX1_sumLacks 30 = .ok (.getfield 30, 3) := by decide +kernel
theorem dX1_sumLacks_33 : decode cX1_sumLacks 33 = .ok (.iload_n 3, 1) := by decide +kernel
theorem dX1_sumLacks_34 : decode cX1_sumLacks 34 = .ok (.aload_n 0, 1) := by decide +kernel
theorem dX1_sumLacks_35 : decode cX1_sumLacks 35 = .ok (.getfield 30, 3) := by decide +kernel
theorem dX1_sumLacks_38 : decode cX1_sumLacks 38 = .ok (.iload_n 3, 1) := by decide +kernel
theorem dX1_sumLacks_39 : decode cX1_sumLacks 39 = .ok (.iload_n 3, 1) := by decide +kernel
theorem dX1_sumLacks_40 : decode cX1_sumLacks 40 = .ok (.iconst 1, 1) := by decide +kernel
theorem dX1_sumLacks_41 : decode cX1_sumLacks 41 = .ok (.isub, 1) := by decide +kernel
theorem dX1_sumLacks_42 : decode cX1_sumLacks 42 = .ok (.iand, 1) := by decide +kernel
theorem dX1_sumLacks_43 : decode cX1_sumLacks 43 = .ok (.iaload, 1) := by decide +kernel
theorem dX1_sumLacks_44 : decode cX1_sumLacks 44 = .ok (.iload 4, 2) := by decide +kernel
theorem dX1_sumLacks_46 : decode cX1_sumLacks 46 = .ok (.ifCond .lt 20, 3) := by decide +kernel
theorem dX1_sumLacks_49 : decode cX1_sumLacks 49 = .ok (.iload 4, 2) := by decide +kernel
theorem dX1_sumLacks_51 : decode cX1_sumLacks 51 = .ok (.bipush 7, 2) := by decide +kernel
theorem dX1_sumLacks_53 : decode cX1_sumLacks 53 = .ok (.if_icmp .ge 13, 3) := by decide +kernel
theorem dX1_sumLacks_56 : decode cX1_sumLacks 56 = .ok (.aload_n 0, 1) := by decide +kernel
theorem dX1_sumLacks_57 : decode cX1_sumLacks 57 = .ok (.getfield 15, 3) := by decide +kernel
theorem dX1_sumLacks_60 : decode cX1_sumLacks 60 = .ok (.iload 4, 2) := by decide +kernel
theorem dX1_sumLacks_62 : decode cX1_sumLacks 62 = .ok (.iaload, 1) := by decide +kernel
theorem dX1_sumLacks_63 : decode cX1_sumLacks 63 = .ok (.goto 4, 3) := by decide +kernel
theorem dX1_sumLacks_66 : decode cX1_sumLacks 66 = .ok (.iconst 0, 1) := by decide +kernel
theorem dX1_sumLacks_67 : decode cX1_sumLacks 67 = .ok (.iadd, 1) := by decide +kernel
theorem dX1_sumLacks_68 : decode cX1_sumLacks 68 = .ok (.iastore, 1) := by decide +kernel
theorem dX1_sumLacks_69 : decode cX1_sumLacks 69 = .ok (.iinc 3 1, 3) := by decide +kernel
theorem dX1_sumLacks_72 : decode cX1_sumLacks 72 = .ok (.goto (-63), 3) := by decide +kernel
theorem dX1_sumLacks_75 : decode cX1_sumLacks 75 = .ok (.return_, 1) := by decide +kernel
theorem dX1_reachWith_0 : decode cX1_reachWith 0 = .ok (.iload_n 3, 1) := by decide +kernel
theorem dX1_reachWith_1 : decode cX1_reachWith 1 = .ok (.sipush 128, 3) := by decide +kernel
theorem dX1_reachWith_4 : decode cX1_reachWith 4 = .ok (.invokestatic 55, 3) := by decide +kernel
theorem dX1_reachWith_7 : decode cX1_reachWith 7 = .ok (.iconst 1, 1) := by decide +kernel
theorem dX1_reachWith_8 : decode cX1_reachWith 8 = .ok (.isub, 1) := by decide +kernel
theorem dX1_reachWith_9 : decode cX1_reachWith 9 = .ok (.istore 4, 2) := by decide +kernel
theorem dX1_reachWith_11 : decode cX1_reachWith 11 = .ok (.iload 4, 2) := by decide +kernel
theorem dX1_reachWith_13 : decode cX1_reachWith 13 = .ok (.ifCond .le 93, 3) := by decide +kernel
theorem dX1_reachWith_16 : decode cX1_reachWith 16 = .ok (.iload 4, 2) := by decide +kernel
theorem dX1_reachWith_18 : decode cX1_reachWith 18 = .ok (.istore 5, 2) := by decide +kernel
theorem dX1_reachWith_20 : decode cX1_reachWith 20 = .ok (.iload 5, 2) := by decide +kernel
theorem dX1_reachWith_22 : decode cX1_reachWith 22 = .ok (.ifCond .le 78, 3) := by decide +kernel
theorem dX1_reachWith_25 : decode cX1_reachWith 25 = .ok (.aload_n 0, 1) := by decide +kernel
theorem dX1_reachWith_26 : decode cX1_reachWith 26 = .ok (.getfield 33, 3) := by decide +kernel
theorem dX1_reachWith_29 : decode cX1_reachWith 29 = .ok (.iload 4, 2) := by decide +kernel
theorem dX1_reachWith_31 : decode cX1_reachWith 31 = .ok (.baload, 1) := by decide +kernel
theorem dX1_reachWith_32 : decode cX1_reachWith 32 = .ok (.ifCond .ne 68, 3) := by decide +kernel
theorem dX1_reachWith_35 : decode cX1_reachWith 35 = .ok (.iload 5, 2) := by decide +kernel
theorem dX1_reachWith_37 : decode cX1_reachWith 37 = .ok (.iload_n 1, 1) := by decide +kernel
theorem dX1_reachWith_38 : decode cX1_reachWith 38 = .ok (.iconst (-1), 1) := by decide +kernel
theorem dX1_reachWith_39 : decode cX1_reachWith 39 = .ok (.ixor, 1) := by decide +kernel
theorem dX1_reachWith_40 : decode cX1_reachWith 40 = .ok (.iand, 1) := by decide +kernel
theorem dX1_reachWith_41 : decode cX1_reachWith 41 = .ok (.ifCond .ne 18, 3) := by decide +kernel
theorem dX1_reachWith_44 : decode cX1_reachWith 44 = .ok (.aload_n 0, 1) := by decide +kernel
theorem dX1_reachWith_45 : decode cX1_reachWith 45 = .ok (.getfield 30, 3) := by decide +kernel
theorem dX1_reachWith_48 : decode cX1_reachWith 48 = .ok (.iload 5, 2) := by decide +kernel
theorem dX1_reachWith_50 : decode cX1_reachWith 50 = .ok (.iaload, 1) := by decide +kernel
theorem dX1_reachWith_51 : decode cX1_reachWith 51 = .ok (.iload_n 2, 1) := by decide +kernel
theorem dX1_reachWith_52 : decode cX1_reachWith 52 = .ok (.if_icmp .gt 7, 3) := by decide +kernel
theorem dX1_reachWith_55 : decode cX1_reachWith 55 = .ok (.iconst 1, 1) := by decide +kernel
theorem dX1_reachWith_56 : decode cX1_reachWith 56 = .ok (.goto 4, 3) := by decide +kernel
theorem dX1_reachWith_59 : decode cX1_reachWith 59 = .ok (.iconst 0, 1) := by decide +kernel
theorem dX1_reachWith_60 : decode cX1_reachWith 60 = .ok (.istore 6, 2) := by decide +kernel
theorem dX1_reachWith_62 : decode cX1_reachWith 62 = .ok (.iload 6, 2) := by decide +kernel
theorem dX1_reachWith_64 : decode cX1_reachWith 64 = .ok (.ifCond .eq 24, 3) := by decide +kernel
theorem dX1_reachWith_67 : decode cX1_reachWith 67 = .ok (.aload_n 0, 1) := by decide +kernel
theorem dX1_reachWith_68 : decode cX1_reachWith 68 = .ok (.getfield 33, 3) := by decide +kernel
theorem dX1_reachWith_71 : decode cX1_reachWith 71 = .ok (.iload 4, 2) := by decide +kernel
theorem dX1_reachWith_73 : decode cX1_reachWith 73 = .ok (.iload 5, 2) := by decide +kernel
theorem dX1_reachWith_75 : decode cX1_reachWith 75 = .ok (.ixor, 1) := by decide +kernel
theorem dX1_reachWith_76 : decode cX1_reachWith 76 = .ok (.baload, 1) := by decide +kernel
theorem dX1_reachWith_77 : decode cX1_reachWith 77 = .ok (.ifCond .eq 11, 3) := by decide +kernel
theorem dX1_reachWith_80 : decode cX1_reachWith 80 = .ok (.aload_n 0, 1) := by decide +kernel
theorem dX1_reachWith_81 : decode cX1_reachWith 81 = .ok (.getfield 33, 3) := by decide +kernel
theorem dX1_reachWith_84 : decode cX1_reachWith 84 = .ok (.iload 4, 2) := by decide +kernel
theorem dX1_reachWith_86 : decode cX1_reachWith 86 = .ok (.iconst 1, 1) := by decide +kernel
theorem dX1_reachWith_87 : decode cX1_reachWith 87 = .ok (.bastore, 1) := by decide +kernel
theorem dX1_reachWith_88 : decode cX1_reachWith 88 = .ok (.iload 5, 2) := by decide +kernel
theorem dX1_reachWith_90 : decode cX1_reachWith 90 = .ok (.iconst 1, 1) := by decide +kernel
theorem dX1_reachWith_91 : decode cX1_reachWith 91 = .ok (.isub, 1) := by decide +kernel
theorem dX1_reachWith_92 : decode cX1_reachWith 92 = .ok (.iload 4, 2) := by decide +kernel
theorem dX1_reachWith_94 : decode cX1_reachWith 94 = .ok (.iand, 1) := by decide +kernel
theorem dX1_reachWith_95 : decode cX1_reachWith 95 = .ok (.istore 5, 2) := by decide +kernel
theorem dX1_reachWith_97 : decode cX1_reachWith 97 = .ok (.goto (-77), 3) := by decide +kernel
theorem dX1_reachWith_100 : decode cX1_reachWith 100 = .ok (.iinc 4 (-1), 3) := by decide +kernel
theorem dX1_reachWith_103 : decode cX1_reachWith 103 = .ok (.goto (-92), 3) := by decide +kernel
theorem dX1_reachWith_106 : decode cX1_reachWith 106 = .ok (.return_, 1) := by decide +kernel
theorem dX2_init_0 : decode cX2_init 0 = .ok (.aload_n 0, 1) := by decide +kernel
theorem dX2_init_1 : decode cX2_init 1 = .ok (.invokespecial 1, 3) := by decide +kernel
theorem dX2_init_4 : decode cX2_init 4 = .ok (.aload_n 0, 1) := by decide +kernel
theorem dX2_init_5 : decode cX2_init 5 = .ok (.iconst 1, 1) := by decide +kernel
theorem dX2_init_6 : decode cX2_init 6 = .ok (.putfield 7, 3) := by decide +kernel
theorem dX2_init_9 : decode cX2_init 9 = .ok (.aload_n 0, 1) := by decide +kernel
theorem dX2_init_10 : decode cX2_init 10 = .ok (.iload_n 1, 1) := by decide +kernel
theorem dX2_init_11 : decode cX2_init 11 = .ok (.putfield 13, 3) := by decide +kernel
theorem dX2_init_14 : decode cX2_init 14 = .ok (.aload_n 0, 1) := by decide +kernel
theorem dX2_init_15 : decode cX2_init 15 = .ok (.iload_n 2, 1) := by decide +kernel
theorem dX2_init_16 : decode cX2_init 16 = .ok (.putfield 17, 3) := by decide +kernel
theorem dX2_init_19 : decode cX2_init 19 = .ok (.aload_n 0, 1) := by decide +kernel
theorem dX2_init_20 : decode cX2_init 20 = .ok (.iload_n 3, 1) := by decide +kernel
theorem dX2_init_21 : decode cX2_init 21 = .ok (.putfield 20, 3) := by decide +kernel
theorem dX2_init_24 : decode cX2_init 24 = .ok (.return_, 1) := by decide +kernel
theorem dX3_init_0 : decode cX3_init 0 = .ok (.aload_n 0, 1) := by decide +kernel
theorem dX3_init_1 : decode cX3_init 1 = .ok (.invokespecial 3, 3) := by decide +kernel
theorem dX3_init_4 : decode cX3_init 4 = .ok (.aload_n 0, 1) := by decide +kernel
theorem dX3_init_5 : decode cX3_init 5 = .ok (.bipush 60, 2) := by decide +kernel
theorem dX3_init_7 : decode cX3_init 7 = .ok (.newarray .int, 2) := by decide +kernel
theorem dX3_init_9 : decode cX3_init 9 = .ok (.putfield 9, 3) := by decide +kernel
theorem dX3_init_12 : decode cX3_init 12 = .ok (.aload_n 0, 1) := by decide +kernel
theorem dX3_init_13 : decode cX3_init 13 = .ok (.bipush 60, 2) := by decide +kernel
theorem dX3_init_15 : decode cX3_init 15 = .ok (.newarray .int, 2) := by decide +kernel
theorem dX3_init_17 : decode cX3_init 17 = .ok (.putfield 15, 3) := by decide +kernel
theorem dX3_init_20 : decode cX3_init 20 = .ok (.aload_n 0, 1) := by decide +kernel
theorem dX3_init_21 : decode cX3_init 21 = .ok (.bipush 60, 2) := by decide +kernel
theorem dX3_init_23 : decode cX3_init 23 = .ok (.newarray .int, 2) := by decide +kernel
theorem dX3_init_25 : decode cX3_init 25 = .ok (.putfield 18, 3) := by decide +kernel
theorem dX3_init_28 : decode cX3_init 28 = .ok (.aload_n 0, 1) := by decide +kernel
theorem dX3_init_29 : decode cX3_init 29 = .ok (.bipush 60, 2) := by decide +kernel
theorem dX3_init_31 : decode cX3_init 31 = .ok (.newarray .int, 2) := by decide +kernel
theorem dX3_init_33 : decode cX3_init 33 = .ok (.putfield 21, 3) := by decide +kernel
theorem dX3_init_36 : decode cX3_init 36 = .ok (.aload_n 0, 1) := by decide +kernel
theorem dX3_init_37 : decode cX3_init 37 = .ok (.bipush 60, 2) := by decide +kernel
theorem dX3_init_39 : decode cX3_init 39 = .ok (.newarray .int, 2) := by decide +kernel
theorem dX3_init_41 : decode cX3_init 41 = .ok (.putfield 24, 3) := by decide +kernel
theorem dX3_init_44 : decode cX3_init 44 = .ok (.return_, 1) := by decide +kernel
theorem dX3_begin_0 : decode cX3_begin 0 = .ok (.aload_n 0, 1) := by decide +kernel
theorem dX3_begin_1 : decode cX3_begin 1 = .ok (.iconst 0, 1) := by decide +kernel
theorem dX3_begin_2 : decode cX3_begin 2 = .ok (.putfield 27, 3) := by decide +kernel
theorem dX3_begin_5 : decode cX3_begin 5 = .ok (.aload_n 0, 1) := by decide +kernel
theorem dX3_begin_6 : decode cX3_begin 6 = .ok (.iconst 0, 1) := by decide +kernel
theorem dX3_begin_7 : decode cX3_begin 7 = .ok (.putfield 31, 3) := by decide +kernel
theorem dX3_begin_10 : decode cX3_begin 10 = .ok (.return_, 1) := by decide +kernel
theorem dX3_add_0 : decode cX3_add 0 = .ok (.aload_n 0, 1) := by decide +kernel
theorem dX3_add_1 : decode cX3_add 1 = .ok (.getfield 27, 3) := by decide +kernel
theorem dX3_add_4 : decode cX3_add 4 = .ok (.ifCond .lt 82, 3) := by decide +kernel
theorem dX3_add_7 : decode cX3_add 7 = .ok (.aload_n 0, 1) := by decide +kernel
theorem dX3_add_8 : decode cX3_add 8 = .ok (.getfield 27, 3) := by decide +kernel
theorem dX3_add_11 : decode cX3_add 11 = .ok (.bipush 60, 2) := by decide +kernel
theorem dX3_add_13 : decode cX3_add 13 = .ok (.if_icmp .ge 73, 3) := by decide +kernel
theorem dX3_add_16 : decode cX3_add 16 = .ok (.aload_n 0, 1) := by decide +kernel
theorem dX3_add_17 : decode cX3_add 17 = .ok (.getfield 9, 3) := by decide +kernel
theorem dX3_add_20 : decode cX3_add 20 = .ok (.aload_n 0, 1) := by decide +kernel
theorem dX3_add_21 : decode cX3_add 21 = .ok (.getfield 27, 3) := by decide +kernel
theorem dX3_add_24 : decode cX3_add 24 = .ok (.iload_n 1, 1) := by decide +kernel
theorem dX3_add_25 : decode cX3_add 25 = .ok (.iastore, 1) := by decide +kernel
theorem dX3_add_26 : decode cX3_add 26 = .ok (.aload_n 0, 1) := by decide +kernel
theorem dX3_add_27 : decode cX3_add 27 = .ok (.getfield 15, 3) := by decide +kernel
theorem dX3_add_30 : decode cX3_add 30 = .ok (.aload_n 0, 1) := by decide +kernel
theorem dX3_add_31 : decode cX3_add 31 = .ok (.getfield 27, 3) := by decide +kernel
theorem dX3_add_34 : decode cX3_add 34 = .ok (.iload_n 2, 1) := by decide +kernel
theorem dX3_add_35 : decode cX3_add 35 = .ok (.iastore, 1) := by decide +kernel
theorem dX3_add_36 : decode cX3_add 36 = .ok (.aload_n 0, 1) := by decide +kernel
theorem dX3_add_37 : decode cX3_add 37 = .ok (.getfield 18, 3) := by decide +kernel
theorem dX3_add_40 : decode cX3_add 40 = .ok (.aload_n 0, 1) := by decide +kernel
theorem dX3_add_41 : decode cX3_add 41 = .ok (.getfield 27, 3) := by decide +kernel
theorem dX3_add_44 : decode cX3_add 44 = .ok (.iload_n 3, 1) := by decide +kernel
theorem dX3_add_45 : decode cX3_add 45 = .ok (.iastore, 1) := by decide +kernel
theorem dX3_add_46 : decode cX3_add 46 = .ok (.aload_n 0, 1) := by decide +kernel
theorem dX3_add_47 : decode cX3_add 47 = .ok (.getfield 21, 3) := by decide +kernel
theorem dX3_add_50 : decode cX3_add 50 = .ok (.aload_n 0, 1) := by decide +kernel
theorem dX3_add_51 : decode cX3_add 51 = .ok (.getfield 27, 3) := by decide +kernel
theorem dX3_add_54 : decode cX3_add 54 = .ok (.iload 4, 2) := by decide +kernel
theorem dX3_add_56 : decode cX3_add 56 = .ok (.iastore, 1) := by decide +kernel
theorem dX3_add_57 : decode cX3_add 57 = .ok (.aload_n 0, 1) := by decide +kernel
theorem dX3_add_58 : decode cX3_add 58 = .ok (.getfield 24, 3) := by decide +kernel
theorem dX3_add_61 : decode cX3_add 61 = .ok (.aload_n 0, 1) := by decide +kernel
theorem dX3_add_62 : decode cX3_add 62 = .ok (.getfield 27, 3) := by decide +kernel
theorem dX3_add_65 : decode cX3_add 65 = .ok (.iload_n 3, 1) := by decide +kernel
theorem dX3_add_66 : decode cX3_add 66 = .ok (.iload 4, 2) := by decide +kernel
theorem dX3_add_68 : decode cX3_add 68 = .ok (.iload_n 2, 1) := by decide +kernel
theorem dX3_add_69 : decode cX3_add 69 = .ok (.invokestatic 34, 3) := by decide +kernel
theorem dX3_add_72 : decode cX3_add 72 = .ok (.invokestatic 40, 3) := by decide +kernel
theorem dX3_add_75 : decode cX3_add 75 = .ok (.iastore, 1) := by decide +kernel
theorem dX3_add_76 : decode cX3_add 76 = .ok (.aload_n 0, 1) := by decide +kernel
theorem dX3_add_77 : decode cX3_add 77 = .ok (.dup, 1) := by decide +kernel
theorem dX3_add_78 : decode cX3_add 78 = .ok (.getfield 27, 3) := by decide +kernel
theorem dX3_add_81 : decode cX3_add 81 = .ok (.iconst 1, 1) := by decide +kernel
theorem dX3_add_82 : decode cX3_add 82 = .ok (.iadd, 1) := by decide +kernel
theorem dX3_add_83 : decode cX3_add 83 = .ok (.putfield 27, 3) := by decide +kernel
theorem dX3_add_86 : decode cX3_add 86 = .ok (.return_, 1) := by decide +kernel
set_option maxRecDepth 20000 in
theorem ggX3_fitTo_X3_sumOf : GoodIn wsX3_fitTo wsX3_sumOf := goodIn_r _ [9, 10, 22, 23, 24, 25, 26, 27, 28] (by decide +kernel) (by decide +kernel)
set_option maxRecDepth 20000 in
theorem gX3_fitTo_X3_sumOf : GoodIn wsX3_fitTo (wsV RX3 43 RX3 yX3_sumOf wsX3_sumOf) := goodIn_app (goodIn_of _ (by decide +kernel)) ggX3_fitTo_X3_sumOf
set_option maxRecDepth 20000 in
theorem ggX3_fitTo_X3_shift : GoodIn wsX3_fitTo wsX3_shift := goodIn_r _ [14, 10, 4, 15, 16, 17, 18, 19, 20, 21, 22, 23, 24, 25, 26, 27, 28] (by decide +kernel) (by decide +kernel)
set_option maxRecDepth 20000 in
theorem gX3_fitTo_X3_shift : GoodIn wsX3_fitTo (wsV RX3 47 RX3 yX3_shift wsX3_shift) := goodIn_app (goodIn_of _ (by decide +kernel)) ggX3_fitTo_X3_shift
theorem dX3_fitTo_0 : decode cX3_fitTo 0 = .ok (.aload_n 0, 1) := by decide +kernel
theorem dX3_fitTo_1 : decode cX3_fitTo 1 = .ok (.getfield 31, 3) := by decide +kernel
theorem dX3_fitTo_4 : decode cX3_fitTo 4 = .ok (.aload_n 0, 1) := by decide +kernel
theorem dX3_fitTo_5 : decode cX3_fitTo 5 = .ok (.aload_n 0, 1) := by decide +kernel
theorem dX3_fitTo_6 : decode cX3_fitTo 6 = .ok (.getfield 18, 3) := by decide +kernel
theorem dX3_fitTo_9 : decode cX3_fitTo 9 = .ok (.invokevirtual 43, 3) := by decide +kernel
theorem dX3_fitTo_12 : decode cX3_fitTo 12 = .ok (.iadd, 1) := by decide +kernel
theorem dX3_fitTo_13 : decode cX3_fitTo 13 = .ok (.istore_n 2, 1) := by decide +kernel
theorem dX3_fitTo_14 : decode cX3_fitTo 14 = .ok (.aload_n 0, 1) := by decide +kernel
theorem dX3_fitTo_15 : decode cX3_fitTo 15 = .ok (.getfield 31, 3) := by decide +kernel
theorem dX3_fitTo_18 : decode cX3_fitTo 18 = .ok (.aload_n 0, 1) := by decide +kernel
theorem dX3_fitTo_19 : decode cX3_fitTo 19 = .ok (.aload_n 0, 1) := by decide +kernel
theorem dX3_fitTo_20 : decode cX3_fitTo 20 = .ok (.getfield 21, 3) := by decide +kernel
theorem dX3_fitTo_23 : decode cX3_fitTo 23 = .ok (.invokevirtual 43, 3) := by decide +kernel
theorem dX3_fitTo_26 : decode cX3_fitTo 26 = .ok (.iadd, 1) := by decide +kernel
theorem dX3_fitTo_27 : decode cX3_fitTo 27 = .ok (.istore_n 3, 1) := by decide +kernel
theorem dX3_fitTo_28 : decode cX3_fitTo 28 = .ok (.aload_n 0, 1) := by decide +kernel
theorem dX3_fitTo_29 : decode cX3_fitTo 29 = .ok (.getfield 31, 3) := by decide +kernel
theorem dX3_fitTo_32 : decode cX3_fitTo 32 = .ok (.aload_n 0, 1) := by decide +kernel
theorem dX3_fitTo_33 : decode cX3_fitTo 33 = .ok (.aload_n 0, 1) := by decide +kernel
theorem dX3_fitTo_34 : decode cX3_fitTo 34 = .ok (.getfield 24, 3) := by decide +kernel
theorem dX3_fitTo_37 : decode cX3_fitTo 37 = .ok (.invokevirtual 43, 3) := by decide +kernel
theorem dX3_fitTo_40 : decode cX3_fitTo 40 = .ok (.iadd, 1) := by decide +kernel
theorem dX3_fitTo_41 : decode cX3_fitTo 41 = .ok (.istore 4, 2) := by decide +kernel
theorem dX3_fitTo_43 : decode cX3_fitTo 43 = .ok (.iload_n 1, 1) := by decide +kernel
theorem dX3_fitTo_44 : decode cX3_fitTo 44 = .ok (.ifCond .le 10, 3) := by decide +kernel
theorem dX3_fitTo_47 : decode cX3_fitTo 47 = .ok (.iload 4, 2) := by decide +kernel
theorem dX3_fitTo_49 : decode cX3_fitTo 49 = .ok (.iload_n 1, 1) := by decide +kernel
theorem dX3_fitTo_50 : decode cX3_fitTo 50 = .ok (.irem, 1) := by decide +kernel
theorem dX3_fitTo_51 : decode cX3_fitTo 51 = .ok (.goto 4, 3) := by decide +kernel
theorem dX3_fitTo_54 : decode cX3_fitTo 54 = .ok (.iconst 0, 1) := by decide +kernel
theorem dX3_fitTo_55 : decode cX3_fitTo 55 = .ok (.istore 5, 2) := by decide +kernel
theorem dX3_fitTo_57 : decode cX3_fitTo 57 = .ok (.iload 5, 2) := by decide +kernel
theorem dX3_fitTo_59 : decode cX3_fitTo 59 = .ok (.ifCond .ne 5, 3) := by decide +kernel
theorem dX3_fitTo_62 : decode cX3_fitTo 62 = .ok (.iconst 1, 1) := by decide +kernel
theorem dX3_fitTo_63 : decode cX3_fitTo 63 = .ok (.ireturn, 1) := by decide +kernel
theorem dX3_fitTo_64 : decode cX3_fitTo 64 = .ok (.iload_n 1, 1) := by decide +kernel
theorem dX3_fitTo_65 : decode cX3_fitTo 65 = .ok (.iload 5, 2) := by decide +kernel
theorem dX3_fitTo_67 : decode cX3_fitTo 67 = .ok (.isub, 1) := by decide +kernel
theorem dX3_fitTo_68 : decode cX3_fitTo 68 = .ok (.istore 6, 2) := by decide +kernel
theorem dX3_fitTo_70 : decode cX3_fitTo 70 = .ok (.iload 4, 2) := by decide +kernel
theorem dX3_fitTo_72 : decode cX3_fitTo 72 = .ok (.iload 5, 2) := by decide +kernel
theorem dX3_fitTo_74 : decode cX3_fitTo 74 = .ok (.isub, 1) := by decide +kernel
theorem dX3_fitTo_75 : decode cX3_fitTo 75 = .ok (.iload_n 2, 1) := by decide +kernel
theorem dX3_fitTo_76 : decode cX3_fitTo 76 = .ok (.if_icmp .lt 7, 3) := by decide +kernel
theorem dX3_fitTo_79 : decode cX3_fitTo 79 = .ok (.iconst 1, 1) := by decide +kernel
theorem dX3_fitTo_80 : decode cX3_fitTo 80 = .ok (.goto 4, 3) := by decide +kernel
theorem dX3_fitTo_83 : decode cX3_fitTo 83 = .ok (.iconst 0, 1) := by decide +kernel
theorem dX3_fitTo_84 : decode cX3_fitTo 84 = .ok (.istore 7, 2) := by decide +kernel
theorem dX3_fitTo_86 : decode cX3_fitTo 86 = .ok (.iload 4, 2) := by decide +kernel
theorem dX3_fitTo_88 : decode cX3_fitTo 88 = .ok (.iload 6, 2) := by decide +kernel
theorem dX3_fitTo_90 : decode cX3_fitTo 90 = .ok (.iadd, 1) := by decide +kernel
theorem dX3_fitTo_91 : decode cX3_fitTo 91 = .ok (.iload_n 3, 1) := by decide +kernel
theorem dX3_fitTo_92 : decode cX3_fitTo 92 = .ok (.if_icmp .gt 7, 3) := by decide +kernel
theorem dX3_fitTo_95 : decode cX3_fitTo 95 = .ok (.iconst 1, 1) := by decide +kernel
theorem dX3_fitTo_96 : decode cX3_fitTo 96 = .ok (.goto 4, 3) := by decide +kernel
theorem dX3_fitTo_99 : decode cX3_fitTo 99 = .ok (.iconst 0, 1) := by decide +kernel
theorem dX3_fitTo_100 : decode cX3_fitTo 100 = .ok (.istore 8, 2) := by decide +kernel
theorem dX3_fitTo_102 : decode cX3_fitTo 102 = .ok (.iload 7, 2) := by decide +kernel
theorem dX3_fitTo_104 : decode cX3_fitTo 104 = .ok (.ifCond .eq 28, 3) := by decide +kernel
theorem dX3_fitTo_107 : decode cX3_fitTo 107 = .ok (.iload 8, 2) := by decide +kernel
theorem dX3_fitTo_109 : decode cX3_fitTo 109 = .ok (.ifCond .eq 10, 3) := by decide +kernel
theorem dX3_fitTo_112 : decode cX3_fitTo 112 = .ok (.iload 5, 2) := by decide +kernel
theorem dX3_fitTo_114 : decode cX3_fitTo 114 = .ok (.iload 6, 2) := by decide +kernel
theorem dX3_fitTo_116 : decode cX3_fitTo 116 = .ok (.if_icmp .gt 16, 3) := by decide +kernel
theorem dX3_fitTo_119 : decode cX3_fitTo 119 = .ok (.aload_n 0, 1) := by decide +kernel
theorem dX3_fitTo_120 : decode cX3_fitTo 120 = .ok (.aload_n 0, 1) := by decide +kernel
theorem dX3_fitTo_121 : decode cX3_fitTo 121 = .ok (.getfield 18, 3) := by decide +kernel
theorem dX3_fitTo_124 : decode cX3_fitTo 124 = .ok (.iload 5, 2) := by decide +kernel
theorem dX3_fitTo_126 : decode cX3_fitTo 126 = .ok (.invokevirtual 47, 3) := by decide +kernel
theorem dX3_fitTo_129 : decode cX3_fitTo 129 = .ok (.goto 18, 3) := by decide +kernel
theorem dX3_fitTo_132 : decode cX3_fitTo 132 = .ok (.iload 8, 2) := by decide +kernel
theorem dX3_fitTo_134 : decode cX3_fitTo 134 = .ok (.ifCond .eq 13, 3) := by decide +kernel
theorem dX3_fitTo_137 : decode cX3_fitTo 137 = .ok (.aload_n 0, 1) := by decide +kernel
theorem dX3_fitTo_138 : decode cX3_fitTo 138 = .ok (.aload_n 0, 1) := by decide +kernel
theorem dX3_fitTo_139 : decode cX3_fitTo 139 = .ok (.getfield 21, 3) := by decide +kernel
theorem dX3_fitTo_142 : decode cX3_fitTo 142 = .ok (.iload 6, 2) := by decide +kernel
theorem dX3_fitTo_144 : decode cX3_fitTo 144 = .ok (.invokevirtual 47, 3) := by decide +kernel
theorem dX3_fitTo_147 : decode cX3_fitTo 147 = .ok (.iload 7, 2) := by decide +kernel
theorem dX3_fitTo_149 : decode cX3_fitTo 149 = .ok (.ifCond .ne 8, 3) := by decide +kernel
theorem dX3_fitTo_152 : decode cX3_fitTo 152 = .ok (.iload 8, 2) := by decide +kernel
theorem dX3_fitTo_154 : decode cX3_fitTo 154 = .ok (.ifCond .eq 7, 3) := by decide +kernel
theorem dX3_fitTo_157 : decode cX3_fitTo 157 = .ok (.iconst 1, 1) := by decide +kernel
theorem dX3_fitTo_158 : decode cX3_fitTo 158 = .ok (.goto 4, 3) := by decide +kernel
theorem dX3_fitTo_161 : decode cX3_fitTo 161 = .ok (.iconst 0, 1) := by decide +kernel
theorem dX3_fitTo_162 : decode cX3_fitTo 162 = .ok (.ireturn, 1) := by decide +kernel
theorem dX3_shift_0 : decode cX3_shift 0 = .ok (.iload_n 2, 1) := by decide +kernel
theorem dX3_shift_1 : decode cX3_shift 1 = .ok (.istore_n 3, 1) := by decide +kernel
theorem dX3_shift_2 : decode cX3_shift 2 = .ok (.iconst 0, 1) := by decide +kernel
theorem dX3_shift_3 : decode cX3_shift 3 = .ok (.istore 4, 2) := by decide +kernel
theorem dX3_shift_5 : decode cX3_shift 5 = .ok (.iload 4, 2) := by decide +kernel
theorem dX3_shift_7 : decode cX3_shift 7 = .ok (.aload_n 0, 1) := by decide +kernel
theorem dX3_shift_8 : decode cX3_shift 8 = .ok (.getfield 27, 3) := by decide +kernel
theorem dX3_shift_11 : decode cX3_shift 11 = .ok (.if_icmp .ge 76, 3) := by decide +kernel
theorem dX3_shift_14 : decode cX3_shift 14 = .ok (.iload 4, 2) := by decide +kernel
theorem dX3_shift_16 : decode cX3_shift 16 = .ok (.bipush 60, 2) := by decide +kernel
theorem dX3_shift_18 : decode cX3_shift 18 = .ok (.if_icmp .ge 69, 3) := by decide +kernel
theorem dX3_shift_21 : decode cX3_shift 21 = .ok (.iload 4, 2) := by decide +kernel
theorem dX3_shift_23 : decode cX3_shift 23 = .ok (.aload_n 1, 1) := by decide +kernel
theorem dX3_shift_24 : decode cX3_shift 24 = .ok (.arraylength, 1) := by decide +kernel
theorem dX3_shift_25 : decode cX3_shift 25 = .ok (.if_icmp .ge 62, 3) := by decide +kernel
theorem dX3_shift_28 : decode cX3_shift 28 = .ok (.aload_n 1, 1) := by decide +kernel
theorem dX3_shift_29 : decode cX3_shift 29 = .ok (.iload 4, 2) := by decide +kernel
theorem dX3_shift_31 : decode cX3_shift 31 = .ok (.iaload, 1) := by decide +kernel
theorem dX3_shift_32 : decode cX3_shift 32 = .ok (.aload_n 0, 1) := by decide +kernel
theorem dX3_shift_33 : decode cX3_shift 33 = .ok (.getfield 24, 3) := by decide +kernel
theorem dX3_shift_36 : decode cX3_shift 36 = .ok (.iload 4, 2) := by decide +kernel
theorem dX3_shift_38 : decode cX3_shift 38 = .ok (.iaload, 1) := by decide +kernel
theorem dX3_shift_39 : decode cX3_shift 39 = .ok (.isub, 1) := by decide +kernel
theorem dX3_shift_40 : decode cX3_shift 40 = .ok (.istore 5, 2) := by decide +kernel
theorem dX3_shift_42 : decode cX3_shift 42 = .ok (.iload_n 3, 1) := by decide +kernel
theorem dX3_shift_43 : decode cX3_shift 43 = .ok (.iload 5, 2) := by decide +kernel
theorem dX3_shift_45 : decode cX3_shift 45 = .ok (.invokestatic 51, 3) := by decide +kernel
theorem dX3_shift_48 : decode cX3_shift 48 = .ok (.invokestatic 34, 3) := by decide +kernel
theorem dX3_shift_51 : decode cX3_shift 51 = .ok (.istore 6, 2) := by decide +kernel
theorem dX3_shift_53 : decode cX3_shift 53 = .ok (.aload_n 0, 1) := by decide +kernel
theorem dX3_shift_54 : decode cX3_shift 54 = .ok (.getfield 24, 3) := by decide +kernel
theorem dX3_shift_57 : decode cX3_shift 57 = .ok (.iload 4, 2) := by decide +kernel
theorem dX3_shift_59 : decode cX3_shift 59 = .ok (.dup2, 1) := by decide +kernel
theorem dX3_shift_60 : decode cX3_shift 60 = .ok (.iaload, 1) := by decide +kernel
theorem dX3_shift_61 : decode cX3_shift 61 = .ok (.iload 5, 2) := by decide +kernel
theorem dX3_shift_63 : decode cX3_shift 63 = .ok (.ifCond .ge 9, 3) := by decide +kernel
theorem dX3_shift_66 : decode cX3_shift 66 = .ok (.iload 6, 2) := by decide +kernel
theorem dX3_shift_68 : decode cX3_shift 68 = .ok (.ineg, 1) := by decide +kernel
theorem dX3_shift_69 : decode cX3_shift 69 = .ok (.goto 5, 3) := by decide +kernel
theorem dX3_shift_72 : decode cX3_shift 72 = .ok (.iload 6, 2) := by decide +kernel
theorem dX3_shift_74 : decode cX3_shift 74 = .ok (.iadd, 1) := by decide +kernel
theorem dX3_shift_75 : decode cX3_shift 75 = .ok (.iastore, 1) := by decide +kernel
theorem dX3_shift_76 : decode cX3_shift 76 = .ok (.iload_n 3, 1) := by decide +kernel
theorem dX3_shift_77 : decode cX3_shift 77 = .ok (.iload 6, 2) := by decide +kernel
theorem dX3_shift_79 : decode cX3_shift 79 = .ok (.isub, 1) := by decide +kernel
theorem dX3_shift_80 : decode cX3_shift 80 = .ok (.istore_n 3, 1) := by decide +kernel
theorem dX3_shift_81 : decode cX3_shift 81 = .ok (.iinc 4 1, 3) := by decide +kernel
theorem dX3_shift_84 : decode cX3_shift 84 = .ok (.goto (-79), 3) := by decide +kernel
theorem dX3_shift_87 : decode cX3_shift 87 = .ok (.return_, 1) := by decide +kernel
theorem dX3_sumOf_0 : decode cX3_sumOf 0 = .ok (.iconst 0, 1) := by decide +kernel
theorem dX3_sumOf_1 : decode cX3_sumOf 1 = .ok (.istore_n 2, 1) := by decide +kernel
theorem dX3_sumOf_2 : decode cX3_sumOf 2 = .ok (.iconst 0, 1) := by decide +kernel
theorem dX3_sumOf_3 : decode cX3_sumOf 3 = .ok (.istore_n 3, 1) := by decide +kernel
theorem dX3_sumOf_4 : decode cX3_sumOf 4 = .ok (.iload_n 3, 1) := by decide +kernel
theorem dX3_sumOf_5 : decode cX3_sumOf 5 = .ok (.aload_n 0, 1) := by decide +kernel
theorem dX3_sumOf_6 : decode cX3_sumOf 6 = .ok (.getfield 27, 3) := by decide +kernel
theorem dX3_sumOf_9 : decode cX3_sumOf 9 = .ok (.if_icmp .ge 21, 3) := by decide +kernel
theorem dX3_sumOf_12 : decode cX3_sumOf 12 = .ok (.iload_n 3, 1) := by decide +kernel
theorem dX3_sumOf_13 : decode cX3_sumOf 13 = .ok (.aload_n 1, 1) := by decide +kernel
theorem dX3_sumOf_14 : decode cX3_sumOf 14 = .ok (.arraylength, 1) := by decide +kernel
theorem dX3_sumOf_15 : decode cX3_sumOf 15 = .ok (.if_icmp .ge 15, 3) := by decide +kernel
theorem dX3_sumOf_18 : decode cX3_sumOf 18 = .ok (.iload_n 2, 1) := by decide +kernel
theorem dX3_sumOf_19 : decode cX3_sumOf 19 = .ok (.aload_n 1, 1) := by decide +kernel
theorem dX3_sumOf_20 : decode cX3_sumOf 20 = .ok (.iload_n 3, 1) := by decide +kernel
theorem dX3_sumOf_21 : decode cX3_sumOf 21 = .ok (.iaload, 1) := by decide +kernel
theorem dX3_sumOf_22 : decode cX3_sumOf 22 = .ok (.iadd, 1) := by decide +kernel
theorem dX3_sumOf_23 : decode cX3_sumOf 23 = .ok (.istore_n 2, 1) := by decide +kernel
theorem dX3_sumOf_24 : decode cX3_sumOf 24 = .ok (.iinc 3 1, 3) := by decide +kernel
theorem dX3_sumOf_27 : decode cX3_sumOf 27 = .ok (.goto (-23), 3) := by decide +kernel
theorem dX3_sumOf_30 : decode cX3_sumOf 30 = .ok (.iload_n 2, 1) := by decide +kernel
theorem dX3_sumOf_31 : decode cX3_sumOf 31 = .ok (.ireturn, 1) := by decide +kernel
theorem dX3_differences_0 : decode cX3_differences 0 = .ok (.iconst 0, 1) := by decide +kernel
theorem dX3_differences_1 : decode cX3_differences 1 = .ok (.istore_n 1, 1) := by decide +kernel
theorem dX3_differences_2 : decode cX3_differences 2 = .ok (.iconst 0, 1) := by decide +kernel
theorem dX3_differences_3 : decode cX3_differences 3 = .ok (.istore_n 2, 1) := by decide +kernel
theorem dX3_differences_4 : decode cX3_differences 4 = .ok (.iload_n 2, 1) := by decide +kernel
theorem dX3_differences_5 : decode cX3_differences 5 = .ok (.aload_n 0, 1) := by decide +kernel
theorem dX3_differences_6 : decode cX3_differences 6 = .ok (.getfield 27, 3) := by decide +kernel
theorem dX3_differences_9 : decode cX3_differences 9 = .ok (.if_icmp .ge 34, 3) := by decide +kernel
theorem dX3_differences_12 : decode cX3_differences 12 = .ok (.iload_n 2, 1) := by decide +kernel
theorem dX3_differences_13 : decode cX3_differences 13 = .ok (.bipush 60, 2) := by decide +kernel
theorem dX3_differences_15 : decode cX3_differences 15 = .ok (.if_icmp .ge 28, 3) := by decide +kernel
theorem dX3_differences_18 : decode cX3_differences 18 = .ok (.iload_n 1, 1) := by decide +kernel
theorem dX3_differences_19 : decode cX3_differences 19 = .ok (.aload_n 0, 1) := by decide +kernel
theorem dX3_differences_20 : decode cX3_differences 20 = .ok (.getfield 24, 3) := by decide +kernel
theorem dX3_differences_23 : decode cX3_differences 23 = .ok (.iload_n 2, 1) := by decide +kernel
theorem dX3_differences_24 : decode cX3_differences 24 = .ok (.iaload, 1) := by decide +kernel
theorem dX3_differences_25 : decode cX3_differences 25 = .ok (.aload_n 0, 1) := by decide +kernel
theorem dX3_differences_26 : decode cX3_differences 26 = .ok (.getfield 15, 3) := by decide +kernel
theorem dX3_differences_29 : decode cX3_differences 29 = .ok (.iload_n 2, 1) := by decide +kernel
theorem dX3_differences_30 : decode cX3_differences 30 = .ok (.iaload, 1) := by decide +kernel
theorem dX3_differences_31 : decode cX3_differences 31 = .ok (.isub, 1) := by decide +kernel
theorem dX3_differences_32 : decode cX3_differences 32 = .ok (.invokestatic 51, 3) := by decide +kernel
theorem dX3_differences_35 : decode cX3_differences 35 = .ok (.iadd, 1) := by decide +kernel
theorem dX3_differences_36 : decode cX3_differences 36 = .ok (.istore_n 1, 1) := by decide +kernel
theorem dX3_differences_37 : decode cX3_differences 37 = .ok (.iinc 2 1, 3) := by decide +kernel
theorem dX3_differences_40 : decode cX3_differences 40 = .ok (.goto (-36), 3) := by decide +kernel
theorem dX3_differences_43 : decode cX3_differences 43 = .ok (.iload_n 1, 1) := by decide +kernel
theorem dX3_differences_44 : decode cX3_differences 44 = .ok (.ireturn, 1) := by decide +kernel
theorem dX3_fittedOf_0 : decode cX3_fittedOf 0 = .ok (.iconst 0, 1) := by decide +kernel
theorem dX3_fittedOf_1 : decode cX3_fittedOf 1 = .ok (.istore_n 2, 1) := by decide +kernel
theorem dX3_fittedOf_2 : decode cX3_fittedOf 2 = .ok (.iload_n 2, 1) := by decide +kernel
theorem dX3_fittedOf_3 : decode cX3_fittedOf 3 = .ok (.aload_n 0, 1) := by decide +kernel
theorem dX3_fittedOf_4 : decode cX3_fittedOf 4 = .ok (.getfield 27, 3) := by decide +kernel
theorem dX3_fittedOf_7 : decode cX3_fittedOf 7 = .ok (.if_icmp .ge 32, 3) := by decide +kernel
theorem dX3_fittedOf_10 : decode cX3_fittedOf 10 = .ok (.iload_n 2, 1) := by decide +kernel
theorem dX3_fittedOf_11 : decode cX3_fittedOf 11 = .ok (.bipush 60, 2) := by decide +kernel
theorem dX3_fittedOf_13 : decode cX3_fittedOf 13 = .ok (.if_icmp .ge 26, 3) := by decide +kernel
theorem dX3_fittedOf_16 : decode cX3_fittedOf 16 = .ok (.aload_n 0, 1) := by decide +kernel
theorem dX3_fittedOf_17 : decode cX3_fittedOf 17 = .ok (.getfield 9, 3) := by decide +kernel
theorem dX3_fittedOf_20 : decode cX3_fittedOf 20 = .ok (.iload_n 2, 1) := by decide +kernel
theorem dX3_fittedOf_21 : decode cX3_fittedOf 21 = .ok (.iaload, 1) := by decide +kernel
theorem dX3_fittedOf_22 : decode cX3_fittedOf 22 = .ok (.iload_n 1, 1) := by decide +kernel
theorem dX3_fittedOf_23 : decode cX3_fittedOf 23 = .ok (.if_icmp .ne 10, 3) := by decide +kernel
theorem dX3_fittedOf_26 : decode cX3_fittedOf 26 = .ok (.aload_n 0, 1) := by decide +kernel
theorem dX3_fittedOf_27 : decode cX3_fittedOf 27 = .ok (.getfield 24, 3) := by decide +kernel
theorem dX3_fittedOf_30 : decode cX3_fittedOf 30 = .ok (.iload_n 2, 1) := by decide +kernel
theorem dX3_fittedOf_31 : decode cX3_fittedOf 31 = .ok (.iaload, 1) := by decide +kernel
theorem dX3_fittedOf_32 : decode cX3_fittedOf 32 = .ok (.ireturn, 1) := by decide +kernel
theorem dX3_fittedOf_33 : decode cX3_fittedOf 33 = .ok (.iinc 2 1, 3) := by decide +kernel
theorem dX3_fittedOf_36 : decode cX3_fittedOf 36 = .ok (.goto (-34), 3) := by decide +kernel
theorem dX3_fittedOf_39 : decode cX3_fittedOf 39 = .ok (.iconst (-1), 1) := by decide +kernel
theorem dX3_fittedOf_40 : decode cX3_fittedOf 40 = .ok (.ireturn, 1) := by decide +kernel
theorem dX4_init_0 : decode cX4_init 0 = .ok (.aload_n 0, 1) := by decide +kernel
theorem dX4_init_1 : decode cX4_init 1 = .ok (.invokespecial 3, 3) := by decide +kernel
theorem dX4_init_4 : decode cX4_init 4 = .ok (.aload_n 0, 1) := by decide +kernel
theorem dX4_init_5 : decode cX4_init 5 = .ok (.iconst (-1), 1) := by decide +kernel
theorem dX4_init_6 : decode cX4_init 6 = .ok (.putfield 9, 3) := by decide +kernel
theorem dX4_init_9 : decode cX4_init 9 = .ok (.aload_n 0, 1) := by decide +kernel
theorem dX4_init_10 : decode cX4_init 10 = .ok (.iconst (-1), 1) := by decide +kernel
theorem dX4_init_11 : decode cX4_init 11 = .ok (.putfield 15, 3) := by decide +kernel
theorem dX4_init_14 : decode cX4_init 14 = .ok (.aload_n 0, 1) := by decide +kernel
theorem dX4_init_15 : decode cX4_init 15 = .ok (.iconst (-1), 1) := by decide +kernel
theorem dX4_init_16 : decode cX4_init 16 = .ok (.putfield 18, 3) := by decide +kernel
theorem dX4_init_19 : decode cX4_init 19 = .ok (.aload_n 0, 1) := by decide +kernel
theorem dX4_init_20 : decode cX4_init 20 = .ok (.iconst (-1), 1) := by decide +kernel
theorem dX4_init_21 : decode cX4_init 21 = .ok (.putfield 21, 3) := by decide +kernel
theorem dX4_init_24 : decode cX4_init 24 = .ok (.aload_n 0, 1) := by decide +kernel
theorem dX4_init_25 : decode cX4_init 25 = .ok (.iconst (-1), 1) := by decide +kernel
theorem dX4_init_26 : decode cX4_init 26 = .ok (.putfield 24, 3) := by decide +kernel
theorem dX4_init_29 : decode cX4_init 29 = .ok (.aload_n 0, 1) := by decide +kernel
theorem dX4_init_30 : decode cX4_init 30 = .ok (.iload_n 1, 1) := by decide +kernel
theorem dX4_init_31 : decode cX4_init 31 = .ok (.putfield 27, 3) := by decide +kernel
theorem dX4_init_34 : decode cX4_init 34 = .ok (.aload_n 0, 1) := by decide +kernel
theorem dX4_init_35 : decode cX4_init 35 = .ok (.iload_n 2, 1) := by decide +kernel
theorem dX4_init_36 : decode cX4_init 36 = .ok (.putfield 30, 3) := by decide +kernel
theorem dX4_init_39 : decode cX4_init 39 = .ok (.aload_n 0, 1) := by decide +kernel
theorem dX4_init_40 : decode cX4_init 40 = .ok (.iload_n 3, 1) := by decide +kernel
theorem dX4_init_41 : decode cX4_init 41 = .ok (.putfield 33, 3) := by decide +kernel
theorem dX4_init_44 : decode cX4_init 44 = .ok (.return_, 1) := by decide +kernel
set_option maxRecDepth 20000 in
theorem ggX5_init_J7_fill_53178 : GoodIn wsX5_init wsJ7_fill_53178 := goodIn_r _ [19] (by decide +kernel) (by decide +kernel)
set_option maxRecDepth 20000 in
theorem gX5_init_J7_fill_53178 : GoodIn wsX5_init (va_wsS RX5 43 yJ7_fill_53178 wsJ7_fill_53178) := goodIn_app (goodIn_of _ (by decide +kernel)) ggX5_init_J7_fill_53178
theorem dX5_init_0 : decode cX5_init 0 = .ok (.aload_n 0, 1) := by decide +kernel
theorem dX5_init_1 : decode cX5_init 1 = .ok (.invokespecial 3, 3) := by decide +kernel
theorem dX5_init_4 : decode cX5_init 4 = .ok (.aload_n 0, 1) := by decide +kernel
theorem dX5_init_5 : decode cX5_init 5 = .ok (.bipush 40, 2) := by decide +kernel
theorem dX5_init_7 : decode cX5_init 7 = .ok (.newarray .int, 2) := by decide +kernel
theorem dX5_init_9 : decode cX5_init 9 = .ok (.putfield 11, 3) := by decide +kernel
theorem dX5_init_12 : decode cX5_init 12 = .ok (.aload_n 0, 1) := by decide +kernel
theorem dX5_init_13 : decode cX5_init 13 = .ok (.sipush 600, 3) := by decide +kernel
theorem dX5_init_16 : decode cX5_init 16 = .ok (.newarray .int, 2) := by decide +kernel
theorem dX5_init_18 : decode cX5_init 18 = .ok (.putfield 15, 3) := by decide +kernel
theorem dX5_init_21 : decode cX5_init 21 = .ok (.aload_n 0, 1) := by decide +kernel
theorem dX5_init_22 : decode cX5_init 22 = .ok (.sipush 600, 3) := by decide +kernel
theorem dX5_init_25 : decode cX5_init 25 = .ok (.newarray .int, 2) := by decide +kernel
theorem dX5_init_27 : decode cX5_init 27 = .ok (.putfield 18, 3) := by decide +kernel
theorem dX5_init_30 : decode cX5_init 30 = .ok (.aload_n 0, 1) := by decide +kernel
theorem dX5_init_31 : decode cX5_init 31 = .ok (.sipush 600, 3) := by decide +kernel
theorem dX5_init_34 : decode cX5_init 34 = .ok (.newarray .int, 2) := by decide +kernel
theorem dX5_init_36 : decode cX5_init 36 = .ok (.putfield 21, 3) := by decide +kernel
theorem dX5_init_39 : decode cX5_init 39 = .ok (.aload_n 0, 1) := by decide +kernel
theorem dX5_init_40 : decode cX5_init 40 = .ok (.sipush 600, 3) := by decide +kernel
theorem dX5_init_43 : decode cX5_init 43 = .ok (.newarray .int, 2) := by decide +kernel
theorem dX5_init_45 : decode cX5_init 45 = .ok (.putfield 24, 3) := by decide +kernel
theorem dX5_init_48 : decode cX5_init 48 = .ok (.aload_n 0, 1) := by decide +kernel
theorem dX5_init_49 : decode cX5_init 49 = .ok (.bipush 60, 2) := by decide +kernel
theorem dX5_init_51 : decode cX5_init 51 = .ok (.newarray .int, 2) := by decide +kernel
theorem dX5_init_53 : decode cX5_init 53 = .ok (.putfield 27, 3) := by decide +kernel
theorem dX5_init_56 : decode cX5_init 56 = .ok (.aload_n 0, 1) := by decide +kernel
theorem dX5_init_57 : decode cX5_init 57 = .ok (.bipush 60, 2) := by decide +kernel
theorem dX5_init_59 : decode cX5_init 59 = .ok (.newarray .int, 2) := by decide +kernel
theorem dX5_init_61 : decode cX5_init 61 = .ok (.putfield 30, 3) := by decide +kernel
theorem dX5_init_64 : decode cX5_init 64 = .ok (.aload_n 0, 1) := by decide +kernel
theorem dX5_init_65 : decode cX5_init 65 = .ok (.bipush 60, 2) := by decide +kernel
theorem dX5_init_67 : decode cX5_init 67 = .ok (.newarray .int, 2) := by decide +kernel
theorem dX5_init_69 : decode cX5_init 69 = .ok (.putfield 33, 3) := by decide +kernel
theorem dX5_init_72 : decode cX5_init 72 = .ok (.aload_n 0, 1) := by decide +kernel
theorem dX5_init_73 : decode cX5_init 73 = .ok (.bipush 60, 2) := by decide +kernel
theorem dX5_init_75 : decode cX5_init 75 = .ok (.newarray .int, 2) := by decide +kernel
theorem dX5_init_77 : decode cX5_init 77 = .ok (.putfield 36, 3) := by decide +kernel
theorem dX5_init_80 : decode cX5_init 80 = .ok (.aload_n 0, 1) := by decide +kernel
theorem dX5_init_81 : decode cX5_init 81 = .ok (.bipush 60, 2) := by decide +kernel
theorem dX5_init_83 : decode cX5_init 83 = .ok (.newarray .boolean, 2) := by decide +kernel
theorem dX5_init_85 : decode cX5_init 85 = .ok (.putfield 39, 3) := by decide +kernel
theorem dX5_init_88 : decode cX5_init 88 = .ok (.aload_n 0, 1) := by decide +kernel
theorem dX5_init_89 : decode cX5_init 89 = .ok (.getfield 11, 3) := by decide +kernel
theorem dX5_init_92 : decode cX5_init 92 = .ok (.iconst (-1), 1) := by decide +kernel
theorem dX5_init_93 : decode cX5_init 93 = .ok (.invokestatic 43, 3) := by decide +kernel
theorem dX5_init_96 : decode cX5_init 96 = .ok (.return_, 1) := by decide +kernel
theorem dX5_addFact_0 : decode cX5_addFact 0 = .ok (.iload_n 1, 1) := by decide +kernel
theorem dX5_addFact_1 : decode cX5_addFact 1 = .ok (.ifCond .lt 26, 3) := by decide +kernel
theorem dX5_addFact_4 : decode cX5_addFact 4 = .ok (.iload_n 1, 1) := by decide +kernel
theorem dX5_addFact_5 : decode cX5_addFact 5 = .ok (.bipush 40, 2) := by decide +kernel
theorem dX5_addFact_7 : decode cX5_addFact 7 = .ok (.if_icmp .ge 20, 3) := by decide +kernel
theorem dX5_addFact_10 : decode cX5_addFact 10 = .ok (.aload_n 0, 1) := by decide +kernel
theorem dX5_addFact_11 : decode cX5_addFact 11 = .ok (.getfield 49, 3) := by decide +kernel
theorem dX5_addFact_14 : decode cX5_addFact 14 = .ok (.ifCond .lt 13, 3) := by decide +kernel
theorem dX5_addFact_17 : decode cX5_addFact 17 = .ok (.aload_n 0, 1) := by decide +kernel
theorem dX5_addFact_18 : decode cX5_addFact 18 = .ok (.getfield 49, 3) := by decide +kernel
theorem dX5_addFact_21 : decode cX5_addFact 21 = .ok (.sipush 600, 3) := by decide +kernel
theorem dX5_addFact_24 : decode cX5_addFact 24 = .ok (.if_icmp .lt 5, 3) := by decide +kernel
theorem dX5_addFact_27 : decode cX5_addFact 27 = .ok (.iconst 0, 1) := by decide +kernel
theorem dX5_addFact_28 : decode cX5_addFact 28 = .ok (.ireturn, 1) := by decide +kernel
theorem dX5_addFact_29 : decode cX5_addFact 29 = .ok (.aload_n 0, 1) := by decide +kernel
theorem dX5_addFact_30 : decode cX5_addFact 30 = .ok (.getfield 15, 3) := by decide +kernel
theorem dX5_addFact_33 : decode cX5_addFact 33 = .ok (.aload_n 0, 1) := by decide +kernel
theorem dX5_addFact_34 : decode cX5_addFact 34 = .ok (.getfield 49, 3) := by decide +kernel
theorem dX5_addFact_37 : decode cX5_addFact 37 = .ok (.iload_n 2, 1) := by decide +kernel
theorem dX5_addFact_38 : decode cX5_addFact 38 = .ok (.iastore, 1) := by decide +kernel
theorem dX5_addFact_39 : decode cX5_addFact 39 = .ok (.aload_n 0, 1) := by decide +kernel
theorem dX5_addFact_40 : decode cX5_addFact 40 = .ok (.getfield 18, 3) := by decide +kernel
theorem dX5_addFact_43 : decode cX5_addFact 43 = .ok (.aload_n 0, 1) := by decide +kernel
theorem dX5_addFact_44 : decode cX5_addFact 44 = .ok (.getfield 49, 3) := by decide +kernel
theorem dX5_addFact_47 : decode cX5_addFact 47 = .ok (.iload_n 3, 1) := by decide +kernel
theorem dX5_addFact_48 : decode cX5_addFact 48 = .ok (.iastore, 1) := by decide +kernel
theorem dX5_addFact_49 : decode cX5_addFact 49 = .ok (.aload_n 0, 1) := by decide +kernel
theorem dX5_addFact_50 : decode cX5_addFact 50 = .ok (.getfield 21, 3) := by decide +kernel
theorem dX5_addFact_53 : decode cX5_addFact 53 = .ok (.aload_n 0, 1) := by decide +kernel
theorem dX5_addFact_54 : decode cX5_addFact 54 = .ok (.getfield 49, 3) := by decide +kernel
theorem dX5_addFact_57 : decode cX5_addFact 57 = .ok (.iload 4, 2) := by decide +kernel
theorem dX5_addFact_59 : decode cX5_addFact 59 = .ok (.iastore, 1) := by decide +kernel
theorem dX5_addFact_60 : decode cX5_addFact 60 = .ok (.aload_n 0, 1) := by decide +kernel
theorem dX5_addFact_61 : decode cX5_addFact 61 = .ok (.getfield 24, 3) := by decide +kernel
theorem dX5_addFact_64 : decode cX5_addFact 64 = .ok (.aload_n 0, 1) := by decide +kernel
theorem dX5_addFact_65 : decode cX5_addFact 65 = .ok (.getfield 49, 3) := by decide +kernel
theorem dX5_addFact_68 : decode cX5_addFact 68 = .ok (.aload_n 0, 1) := by decide +kernel
theorem dX5_addFact_69 : decode cX5_addFact 69 = .ok (.getfield 11, 3) := by decide +kernel
theorem dX5_addFact_72 : decode cX5_addFact 72 = .ok (.iload_n 1, 1) := by decide +kernel
theorem dX5_addFact_73 : decode cX5_addFact 73 = .ok (.iaload, 1) := by decide +kernel
theorem dX5_addFact_74 : decode cX5_addFact 74 = .ok (.iastore, 1) := by decide +kernel
theorem dX5_addFact_75 : decode cX5_addFact 75 = .ok (.aload_n 0, 1) := by decide +kernel
theorem dX5_addFact_76 : decode cX5_addFact 76 = .ok (.getfield 11, 3) := by decide +kernel
theorem dX5_addFact_79 : decode cX5_addFact 79 = .ok (.iload_n 1, 1) := by decide +kernel
theorem dX5_addFact_80 : decode cX5_addFact 80 = .ok (.aload_n 0, 1) := by decide +kernel
theorem dX5_addFact_81 : decode cX5_addFact 81 = .ok (.getfield 49, 3) := by decide +kernel
theorem dX5_addFact_84 : decode cX5_addFact 84 = .ok (.iastore, 1) := by decide +kernel
theorem dX5_addFact_85 : decode cX5_addFact 85 = .ok (.aload_n 0, 1) := by decide +kernel
theorem dX5_addFact_86 : decode cX5_addFact 86 = .ok (.dup, 1) := by decide +kernel
theorem dX5_addFact_87 : decode cX5_addFact 87 = .ok (.getfield 49, 3) := by decide +kernel
theorem dX5_addFact_90 : decode cX5_addFact 90 = .ok (.iconst 1, 1) := by decide +kernel
theorem dX5_addFact_91 : decode cX5_addFact 91 = .ok (.iadd, 1) := by decide +kernel
theorem dX5_addFact_92 : decode cX5_addFact 92 = .ok (.putfield 49, 3) := by decide +kernel
theorem dX5_addFact_95 : decode cX5_addFact 95 = .ok (.iconst 1, 1) := by decide +kernel
theorem dX5_addFact_96 : decode cX5_addFact 96 = .ok (.ireturn, 1) := by decide +kernel
theorem dX5_tellOn_0 : decode cX5_tellOn 0 = .ok (.iload_n 1, 1) := by decide +kernel
theorem dX5_tellOn_1 : decode cX5_tellOn 1 = .ok (.ifCond .lt 18, 3) := by decide +kernel
theorem dX5_tellOn_4 : decode cX5_tellOn 4 = .ok (.iload_n 1, 1) := by decide +kernel
theorem dX5_tellOn_5 : decode cX5_tellOn 5 = .ok (.bipush 40, 2) := by decide +kernel
theorem dX5_tellOn_7 : decode cX5_tellOn 7 = .ok (.if_icmp .ge 12, 3) := by decide +kernel
theorem dX5_tellOn_10 : decode cX5_tellOn 10 = .ok (.aload_n 0, 1) := by decide +kernel
theorem dX5_tellOn_11 : decode cX5_tellOn 11 = .ok (.getfield 11, 3) := by decide +kernel
theorem dX5_tellOn_14 : decode cX5_tellOn 14 = .ok (.iload_n 1, 1) := by decide +kernel
theorem dX5_tellOn_15 : decode cX5_tellOn 15 = .ok (.iaload, 1) := by decide +kernel
theorem dX5_tellOn_16 : decode cX5_tellOn 16 = .ok (.goto 4, 3) := by decide +kernel
theorem dX5_tellOn_19 : decode cX5_tellOn 19 = .ok (.iconst (-1), 1) := by decide +kernel
theorem dX5_tellOn_20 : decode cX5_tellOn 20 = .ok (.istore_n 3, 1) := by decide +kernel
theorem dX5_tellOn_21 : decode cX5_tellOn 21 = .ok (.iconst 0, 1) := by decide +kernel
theorem dX5_tellOn_22 : decode cX5_tellOn 22 = .ok (.istore 4, 2) := by decide +kernel
theorem dX5_tellOn_24 : decode cX5_tellOn 24 = .ok (.iload 4, 2) := by decide +kernel
theorem dX5_tellOn_26 : decode cX5_tellOn 26 = .ok (.sipush 600, 3) := by decide +kernel
theorem dX5_tellOn_29 : decode cX5_tellOn 29 = .ok (.if_icmp .ge 39, 3) := by decide +kernel
theorem dX5_tellOn_32 : decode cX5_tellOn 32 = .ok (.iload_n 3, 1) := by decide +kernel
theorem dX5_tellOn_33 : decode cX5_tellOn 33 = .ok (.ifCond .lt 35, 3) := by decide +kernel
theorem dX5_tellOn_36 : decode cX5_tellOn 36 = .ok (.iload_n 3, 1) := by decide +kernel
theorem dX5_tellOn_37 : decode cX5_tellOn 37 = .ok (.sipush 600, 3) := by decide +kernel
theorem dX5_tellOn_40 : decode cX5_tellOn 40 = .ok (.if_icmp .ge 28, 3) := by decide +kernel
theorem dX5_tellOn_43 : decode cX5_tellOn 43 = .ok (.aload_n 0, 1) := by decide +kernel
theorem dX5_tellOn_44 : decode cX5_tellOn 44 = .ok (.getfield 21, 3) := by decide +kernel
theorem dX5_tellOn_47 : decode cX5_tellOn 47 = .ok (.iload_n 3, 1) := by decide +kernel
theorem dX5_tellOn_48 : decode cX5_tellOn 48 = .ok (.iaload, 1) := by decide +kernel
theorem dX5_tellOn_49 : decode cX5_tellOn 49 = .ok (.iload_n 2, 1) := by decide +kernel
theorem dX5_tellOn_50 : decode cX5_tellOn 50 = .ok (.if_icmp .gt 5, 3) := by decide +kernel
theorem dX5_tellOn_53 : decode cX5_tellOn 53 = .ok (.iload_n 3, 1) := by decide +kernel
theorem dX5_tellOn_54 : decode cX5_tellOn 54 = .ok (.ireturn, 1) := by decide +kernel
theorem dX5_tellOn_55 : decode cX5_tellOn 55 = .ok (.aload_n 0, 1) := by decide +kernel
theorem dX5_tellOn_56 : decode cX5_tellOn 56 = .ok (.getfield 24, 3) := by decide +kernel
theorem dX5_tellOn_59 : decode cX5_tellOn 59 = .ok (.iload_n 3, 1) := by decide +kernel
theorem dX5_tellOn_60 : decode cX5_tellOn 60 = .ok (.iaload, 1) := by decide +kernel
theorem dX5_tellOn_61 : decode cX5_tellOn 61 = .ok (.istore_n 3, 1) := by decide +kernel
theorem dX5_tellOn_62 : decode cX5_tellOn 62 = .ok (.iinc 4 1, 3) := by decide +kernel
theorem dX5_tellOn_65 : decode cX5_tellOn 65 = .ok (.goto (-41), 3) := by decide +kernel
theorem dX5_tellOn_68 : decode cX5_tellOn 68 = .ok (.iconst (-1), 1) := by decide +kernel
theorem dX5_tellOn_69 : decode cX5_tellOn 69 = .ok (.ireturn, 1) := by decide +kernel
set_option maxRecDepth 20000 in
theorem ggX5_valueOn_X5_tellOn : GoodIn wsX5_valueOn wsX5_tellOn := goodIn_r _ [6, 7, 8, 9, 10, 11, 12, 13, 14, 15, 16, 17, 18, 19, 20, 21] (by decide +kernel) (by decide +kernel)
set_option maxRecDepth 20000 in
theorem gX5_valueOn_X5_tellOn : GoodIn wsX5_valueOn (wsV RX5 53 RX5 yX5_tellOn wsX5_tellOn) := goodIn_app (goodIn_of _ (by decide +kernel)) ggX5_valueOn_X5_tellOn
theorem dX5_valueOn_0 : decode cX5_valueOn 0 = .ok (.aload_n 0, 1) := by decide +kernel
theorem dX5_valueOn_1 : decode cX5_valueOn 1 = .ok (.iload_n 1, 1) := by decide +kernel
theorem dX5_valueOn_2 : decode cX5_valueOn 2 = .ok (.iload_n 2, 1) := by decide +kernel
theorem dX5_valueOn_3 : decode cX5_valueOn 3 = .ok (.invokevirtual 53, 3) := by decide +kernel
theorem dX5_valueOn_6 : decode cX5_valueOn 6 = .ok (.istore_n 3, 1) := by decide +kernel
theorem dX5_valueOn_7 : decode cX5_valueOn 7 = .ok (.iload_n 3, 1) := by decide +kernel
theorem dX5_valueOn_8 : decode cX5_valueOn 8 = .ok (.ifCond .lt 19, 3) := by decide +kernel
theorem dX5_valueOn_11 : decode cX5_valueOn 11 = .ok (.iload_n 3, 1) := by decide +kernel
theorem dX5_valueOn_12 : decode cX5_valueOn 12 = .ok (.sipush 600, 3) := by decide +kernel
theorem dX5_valueOn_15 : decode cX5_valueOn 15 = .ok (.if_icmp .ge 12, 3) := by decide +kernel
theorem dX5_valueOn_18 : decode cX5_valueOn 18 = .ok (.aload_n 0, 1) := by decide +kernel
theorem dX5_valueOn_19 : decode cX5_valueOn 19 = .ok (.getfield 15, 3) := by decide +kernel
theorem dX5_valueOn_22 : decode cX5_valueOn 22 = .ok (.iload_n 3, 1) := by decide +kernel
theorem dX5_valueOn_23 : decode cX5_valueOn 23 = .ok (.iaload, 1) := by decide +kernel
theorem dX5_valueOn_24 : decode cX5_valueOn 24 = .ok (.goto 4, 3) := by decide +kernel
theorem dX5_valueOn_27 : decode cX5_valueOn 27 = .ok (.iconst (-1), 1) := by decide +kernel
theorem dX5_valueOn_28 : decode cX5_valueOn 28 = .ok (.ireturn, 1) := by decide +kernel
set_option maxRecDepth 20000 in
theorem ggX5_sourceOn_X5_tellOn : GoodIn wsX5_sourceOn wsX5_tellOn := goodIn_r _ [6, 7, 8, 9, 10, 11, 12, 13, 14, 15, 16, 17, 18, 19, 20, 21] (by decide +kernel) (by decide +kernel)
set_option maxRecDepth 20000 in
theorem gX5_sourceOn_X5_tellOn : GoodIn wsX5_sourceOn (wsV RX5 53 RX5 yX5_tellOn wsX5_tellOn) := goodIn_app (goodIn_of _ (by decide +kernel)) ggX5_sourceOn_X5_tellOn
theorem dX5_sourceOn_0 : decode cX5_sourceOn 0 = .ok (.aload_n 0, 1) := by decide +kernel
theorem dX5_sourceOn_1 : decode cX5_sourceOn 1 = .ok (.iload_n 1, 1) := by decide +kernel
theorem dX5_sourceOn_2 : decode cX5_sourceOn 2 = .ok (.iload_n 2, 1) := by decide +kernel
theorem dX5_sourceOn_3 : decode cX5_sourceOn 3 = .ok (.invokevirtual 53, 3) := by decide +kernel
theorem dX5_sourceOn_6 : decode cX5_sourceOn 6 = .ok (.istore_n 3, 1) := by decide +kernel
theorem dX5_sourceOn_7 : decode cX5_sourceOn 7 = .ok (.iload_n 3, 1) := by decide +kernel
theorem dX5_sourceOn_8 : decode cX5_sourceOn 8 = .ok (.ifCond .lt 19, 3) := by decide +kernel
theorem dX5_sourceOn_11 : decode cX5_sourceOn 11 = .ok (.iload_n 3, 1) := by decide +kernel
theorem dX5_sourceOn_12 : decode cX5_sourceOn 12 = .ok (.sipush 600, 3) := by decide +kernel
theorem dX5_sourceOn_15 : decode cX5_sourceOn 15 = .ok (.if_icmp .ge 12, 3) := by decide +kernel
theorem dX5_sourceOn_18 : decode cX5_sourceOn 18 = .ok (.aload_n 0, 1) := by decide +kernel
theorem dX5_sourceOn_19 : decode cX5_sourceOn 19 = .ok (.getfield 18, 3) := by decide +kernel
theorem dX5_sourceOn_22 : decode cX5_sourceOn 22 = .ok (.iload_n 3, 1) := by decide +kernel
theorem dX5_sourceOn_23 : decode cX5_sourceOn 23 = .ok (.iaload, 1) := by decide +kernel
theorem dX5_sourceOn_24 : decode cX5_sourceOn 24 = .ok (.goto 4, 3) := by decide +kernel
theorem dX5_sourceOn_27 : decode cX5_sourceOn 27 = .ok (.iconst (-1), 1) := by decide +kernel
theorem dX5_sourceOn_28 : decode cX5_sourceOn 28 = .ok (.ireturn, 1) := by decide +kernel
theorem dX5_addErratum_0 : decode cX5_addErratum 0 = .ok (.aload_n 0, 1) := by decide +kernel
theorem dX5_addErratum_1 : decode cX5_addErratum 1 = .ok (.getfield 57, 3) := by decide +kernel
theorem dX5_addErratum_4 : decode cX5_addErratum 4 = .ok (.ifCond .lt 12, 3) := by decide +kernel
theorem dX5_addErratum_7 : decode cX5_addErratum 7 = .ok (.aload_n 0, 1) := by decide +kernel
theorem dX5_addErratum_8 : decode cX5_addErratum 8 = .ok (.getfield 57, 3) := by decide +kernel
theorem dX5_addErratum_11 : decode cX5_addErratum 11 = .ok (.bipush 60, 2) := by decide +kernel
theorem dX5_addErratum_13 : decode cX5_addErratum 13 = .ok (.if_icmp .lt 5, 3) := by decide +kernel
theorem dX5_addErratum_16 : decode cX5_addErratum 16 = .ok (.iconst (-1), 1) := by decide +kernel
theorem dX5_addErratum_17 : decode cX5_addErratum 17 = .ok (.ireturn, 1) := by decide +kernel
theorem dX5_addErratum_18 : decode cX5_addErratum 18 = .ok (.aload_n 0, 1) := by decide +kernel
theorem dX5_addErratum_19 : decode cX5_addErratum 19 = .ok (.getfield 27, 3) := by decide +kernel
theorem dX5_addErratum_22 : decode cX5_addErratum 22 = .ok (.aload_n 0, 1) := by decide +kernel
theorem dX5_addErratum_23 : decode cX5_addErratum 23 = .ok (.getfield 57, 3) := by decide +kernel
theorem dX5_addErratum_26 : decode cX5_addErratum 26 = .ok (.iload_n 1, 1) := by decide +kernel
theorem dX5_addErratum_27 : decode cX5_addErratum 27 = .ok (.iastore, 1) := by decide +kernel
theorem dX5_addErratum_28 : decode cX5_addErratum 28 = .ok (.aload_n 0, 1) := by decide +kernel
theorem dX5_addErratum_29 : decode cX5_addErratum 29 = .ok (.getfield 30, 3) := by decide +kernel
theorem dX5_addErratum_32 : decode cX5_addErratum 32 = .ok (.aload_n 0, 1) := by decide +kernel
theorem dX5_addErratum_33 : decode cX5_addErratum 33 = .ok (.getfield 57, 3) := by decide +kernel
theorem dX5_addErratum_36 : decode cX5_addErratum 36 = .ok (.iload_n 2, 1) := by decide +kernel
theorem dX5_addErratum_37 : decode cX5_addErratum 37 = .ok (.iastore, 1) := by decide +kernel
theorem dX5_addErratum_38 : decode cX5_addErratum 38 = .ok (.aload_n 0, 1) := by decide +kernel
theorem dX5_addErratum_39 : decode cX5_addErratum 39 = .ok (.getfield 33, 3) := by decide +kernel
theorem dX5_addErratum_42 : decode cX5_addErratum 42 = .ok (.aload_n 0, 1) := by decide +kernel
theorem dX5_addErratum_43 : decode cX5_addErratum 43 = .ok (.getfield 57, 3) := by decide +kernel
theorem dX5_addErratum_46 : decode cX5_addErratum 46 = .ok (.iload_n 3, 1) := by decide +kernel
theorem dX5_addErratum_47 : decode cX5_addErratum 47 = .ok (.iastore, 1) := by decide +kernel
theorem dX5_addErratum_48 : decode cX5_addErratum 48 = .ok (.aload_n 0, 1) := by decide +kernel
theorem dX5_addErratum_49 : decode cX5_addErratum 49 = .ok (.getfield 36, 3) := by decide +kernel
theorem dX5_addErratum_52 : decode cX5_addErratum 52 = .ok (.aload_n 0, 1) := by decide +kernel
theorem dX5_addErratum_53 : decode cX5_addErratum 53 = .ok (.getfield 57, 3) := by decide +kernel
theorem dX5_addErratum_56 : decode cX5_addErratum 56 = .ok (.iload 4, 2) := by decide +kernel
theorem dX5_addErratum_58 : decode cX5_addErratum 58 = .ok (.iastore, 1) := by decide +kernel
theorem dX5_addErratum_59 : decode cX5_addErratum 59 = .ok (.aload_n 0, 1) := by decide +kernel
theorem dX5_addErratum_60 : decode cX5_addErratum 60 = .ok (.getfield 39, 3) := by decide +kernel
theorem dX5_addErratum_63 : decode cX5_addErratum 63 = .ok (.aload_n 0, 1) := by decide +kernel
theorem dX5_addErratum_64 : decode cX5_addErratum 64 = .ok (.getfield 57, 3) := by decide +kernel
theorem dX5_addErratum_67 : decode cX5_addErratum 67 = .ok (.iload 5, 2) := by decide +kernel
theorem dX5_addErratum_69 : decode cX5_addErratum 69 = .ok (.bastore, 1) := by decide +kernel
theorem dX5_addErratum_70 : decode cX5_addErratum 70 = .ok (.aload_n 0, 1) := by decide +kernel
theorem dX5_addErratum_71 : decode cX5_addErratum 71 = .ok (.dup, 1) := by decide +kernel
theorem dX5_addErratum_72 : decode cX5_addErratum 72 = .ok (.getfield 57, 3) := by decide +kernel
theorem dX5_addErratum_75 : decode cX5_addErratum 75 = .ok (.iconst 1, 1) := by decide +kernel
theorem dX5_addErratum_76 : decode cX5_addErratum 76 = .ok (.iadd, 1) := by decide +kernel
theorem dX5_addErratum_77 : decode cX5_addErratum 77 = .ok (.putfield 57, 3) := by decide +kernel
theorem dX5_addErratum_80 : decode cX5_addErratum 80 = .ok (.aload_n 0, 1) := by decide +kernel
theorem dX5_addErratum_81 : decode cX5_addErratum 81 = .ok (.getfield 57, 3) := by decide +kernel
theorem dX5_addErratum_84 : decode cX5_addErratum 84 = .ok (.iconst 1, 1) := by decide +kernel
theorem dX5_addErratum_85 : decode cX5_addErratum 85 = .ok (.isub, 1) := by decide +kernel
theorem dX5_addErratum_86 : decode cX5_addErratum 86 = .ok (.ireturn, 1) := by decide +kernel
theorem dX5_missedBy_0 : decode cX5_missedBy 0 = .ok (.iload_n 1, 1) := by decide +kernel
theorem dX5_missedBy_1 : decode cX5_missedBy 1 = .ok (.ifCond .lt 17, 3) := by decide +kernel
theorem dX5_missedBy_4 : decode cX5_missedBy 4 = .ok (.iload_n 1, 1) := by decide +kernel
theorem dX5_missedBy_5 : decode cX5_missedBy 5 = .ok (.aload_n 0, 1) := by decide +kernel
theorem dX5_missedBy_6 : decode cX5_missedBy 6 = .ok (.getfield 57, 3) := by decide +kernel
theorem dX5_missedBy_9 : decode cX5_missedBy 9 = .ok (.if_icmp .ge 9, 3) := by decide +kernel
theorem dX5_missedBy_12 : decode cX5_missedBy 12 = .ok (.iload_n 1, 1) := by decide +kernel
theorem dX5_missedBy_13 : decode cX5_missedBy 13 = .ok (.bipush 60, 2) := by decide +kernel
theorem dX5_missedBy_15 : decode cX5_missedBy 15 = .ok (.if_icmp .lt 5, 3) := by decide +kernel
theorem dX5_missedBy_18 : decode cX5_missedBy 18 = .ok (.iconst (-1), 1) := by decide +kernel
theorem dX5_missedBy_19 : decode cX5_missedBy 19 = .ok (.ireturn, 1) := by decide +kernel
theorem dX5_missedBy_20 : decode cX5_missedBy 20 = .ok (.aload_n 0, 1) := by decide +kernel
theorem dX5_missedBy_21 : decode cX5_missedBy 21 = .ok (.getfield 39, 3) := by decide +kernel
theorem dX5_missedBy_24 : decode cX5_missedBy 24 = .ok (.iload_n 1, 1) := by decide +kernel
theorem dX5_missedBy_25 : decode cX5_missedBy 25 = .ok (.baload, 1) := by decide +kernel
theorem dX5_missedBy_26 : decode cX5_missedBy 26 = .ok (.ifCond .eq 7, 3) := by decide +kernel
theorem dX5_missedBy_29 : decode cX5_missedBy 29 = .ok (.iconst 1, 1) := by decide +kernel
theorem dX5_missedBy_30 : decode cX5_missedBy 30 = .ok (.goto 4, 3) := by decide +kernel
theorem dX5_missedBy_33 : decode cX5_missedBy 33 = .ok (.iconst 0, 1) := by decide +kernel
theorem dX5_missedBy_34 : decode cX5_missedBy 34 = .ok (.ireturn, 1) := by decide +kernel
theorem dX5_keptOn_0 : decode cX5_keptOn 0 = .ok (.iload_n 2, 1) := by decide +kernel
theorem dX5_keptOn_1 : decode cX5_keptOn 1 = .ok (.istore 4, 2) := by decide +kernel
theorem dX5_keptOn_3 : decode cX5_keptOn 3 = .ok (.iconst 0, 1) := by decide +kernel
theorem dX5_keptOn_4 : decode cX5_keptOn 4 = .ok (.istore 5, 2) := by decide +kernel
theorem dX5_keptOn_6 : decode cX5_keptOn 6 = .ok (.iload 5, 2) := by decide +kernel
theorem dX5_keptOn_8 : decode cX5_keptOn 8 = .ok (.aload_n 0, 1) := by decide +kernel
theorem dX5_keptOn_9 : decode cX5_keptOn 9 = .ok (.getfield 57, 3) := by decide +kernel
theorem dX5_keptOn_12 : decode cX5_keptOn 12 = .ok (.if_icmp .ge 59, 3) := by decide +kernel
theorem dX5_keptOn_15 : decode cX5_keptOn 15 = .ok (.iload 5, 2) := by decide +kernel
theorem dX5_keptOn_17 : decode cX5_keptOn 17 = .ok (.bipush 60, 2) := by decide +kernel
theorem dX5_keptOn_19 : decode cX5_keptOn 19 = .ok (.if_icmp .ge 52, 3) := by decide +kernel
theorem dX5_keptOn_22 : decode cX5_keptOn 22 = .ok (.aload_n 0, 1) := by decide +kernel
theorem dX5_keptOn_23 : decode cX5_keptOn 23 = .ok (.getfield 27, 3) := by decide +kernel
theorem dX5_keptOn_26 : decode cX5_keptOn 26 = .ok (.iload 5, 2) := by decide +kernel
theorem dX5_keptOn_28 : decode cX5_keptOn 28 = .ok (.iaload, 1) := by decide +kernel
theorem dX5_keptOn_29 : decode cX5_keptOn 29 = .ok (.iload_n 1, 1) := by decide +kernel
theorem dX5_keptOn_30 : decode cX5_keptOn 30 = .ok (.if_icmp .ne 35, 3) := by decide +kernel
theorem dX5_keptOn_33 : decode cX5_keptOn 33 = .ok (.aload_n 0, 1) := by decide +kernel
theorem dX5_keptOn_34 : decode cX5_keptOn 34 = .ok (.getfield 36, 3) := by decide +kernel
theorem dX5_keptOn_37 : decode cX5_keptOn 37 = .ok (.iload 5, 2) := by decide +kernel
theorem dX5_keptOn_39 : decode cX5_keptOn 39 = .ok (.iaload, 1) := by decide +kernel
theorem dX5_keptOn_40 : decode cX5_keptOn 40 = .ok (.iload_n 3, 1) := by decide +kernel
theorem dX5_keptOn_41 : decode cX5_keptOn 41 = .ok (.if_icmp .gt 24, 3) := by decide +kernel
theorem dX5_keptOn_44 : decode cX5_keptOn 44 = .ok (.aload_n 0, 1) := by decide +kernel
theorem dX5_keptOn_45 : decode cX5_keptOn 45 = .ok (.getfield 30, 3) := by decide +kernel
theorem dX5_keptOn_48 : decode cX5_keptOn 48 = .ok (.iload 5, 2) := by decide +kernel
theorem dX5_keptOn_50 : decode cX5_keptOn 50 = .ok (.iaload, 1) := by decide +kernel
theorem dX5_keptOn_51 : decode cX5_keptOn 51 = .ok (.iload 4, 2) := by decide +kernel
theorem dX5_keptOn_53 : decode cX5_keptOn 53 = .ok (.if_icmp .ne 12, 3) := by decide +kernel
theorem dX5_keptOn_56 : decode cX5_keptOn 56 = .ok (.aload_n 0, 1) := by decide +kernel
theorem dX5_keptOn_57 : decode cX5_keptOn 57 = .ok (.getfield 33, 3) := by decide +kernel
theorem dX5_keptOn_60 : decode cX5_keptOn 60 = .ok (.iload 5, 2) := by decide +kernel
theorem dX5_keptOn_62 : decode cX5_keptOn 62 = .ok (.iaload, 1) := by decide +kernel
theorem dX5_keptOn_63 : decode cX5_keptOn 63 = .ok (.istore 4, 2) := by decide +kernel
theorem dX5_keptOn_65 : decode cX5_keptOn 65 = .ok (.iinc 5 1, 3) := by decide +kernel
theorem dX5_keptOn_68 : decode cX5_keptOn 68 = .ok (.goto (-62), 3) := by decide +kernel
theorem dX5_keptOn_71 : decode cX5_keptOn 71 = .ok (.iload 4, 2) := by decide +kernel
theorem dX5_keptOn_73 : decode cX5_keptOn 73 = .ok (.ireturn, 1) := by decide +kernel
theorem dX6_init_0 : decode cX6_init 0 = .ok (.aload_n 0, 1) := by decide +kernel
theorem dX6_init_1 : decode cX6_init 1 = .ok (.invokespecial 1, 3) := by decide +kernel
theorem dX6_init_4 : decode cX6_init 4 = .ok (.aload_n 0, 1) := by decide +kernel
theorem dX6_init_5 : decode cX6_init 5 = .ok (.aload_n 1, 1) := by decide +kernel
theorem dX6_init_6 : decode cX6_init 6 = .ok (.putfield 7, 3) := by decide +kernel
theorem dX6_init_9 : decode cX6_init 9 = .ok (.return_, 1) := by decide +kernel
set_option maxRecDepth 20000 in
theorem ggX6_take_X8_valueOf : GoodIn wsX6_take wsX8_valueOf := goodIn_r _ [11, 12, 13, 14, 15, 16, 10, 17, 18, 19, 20, 21, 22, 23, 24, 25, 26, 27, 28, 29, 30, 31, 32, 33, 34, 35, 36, 37, 38, 39, 40, 41, 42, 43, 44, 45, 46, 47, 48, 49, 50, 51, 52, 59, 60, 61, 62, 63, 64, 65, 66, 67, 68, 69, 70] (by decide +kernel) (by decide +kernel)
set_option maxRecDepth 20000 in
theorem gX6_take_X8_valueOf : GoodIn wsX6_take (wsV RX6 26 RX8 yX8_valueOf wsX8_valueOf) := goodIn_app (goodIn_of _ (by decide +kernel)) ggX6_take_X8_valueOf
theorem dX6_take_0 : decode cX6_take 0 = .ok (.aload_n 0, 1) := by decide +kernel
theorem dX6_take_1 : decode cX6_take 1 = .ok (.iload_n 1, 1) := by decide +kernel
theorem dX6_take_2 : decode cX6_take 2 = .ok (.putfield 13, 3) := by decide +kernel
theorem dX6_take_5 : decode cX6_take 5 = .ok (.aload_n 0, 1) := by decide +kernel
theorem dX6_take_6 : decode cX6_take 6 = .ok (.iload_n 2, 1) := by decide +kernel
theorem dX6_take_7 : decode cX6_take 7 = .ok (.putfield 17, 3) := by decide +kernel
theorem dX6_take_10 : decode cX6_take 10 = .ok (.aload_n 0, 1) := by decide +kernel
theorem dX6_take_11 : decode cX6_take 11 = .ok (.iconst 1, 1) := by decide +kernel
theorem dX6_take_12 : decode cX6_take 12 = .ok (.putfield 20, 3) := by decide +kernel
theorem dX6_take_15 : decode cX6_take 15 = .ok (.aload_n 0, 1) := by decide +kernel
theorem dX6_take_16 : decode cX6_take 16 = .ok (.aload_n 0, 1) := by decide +kernel
theorem dX6_take_17 : decode cX6_take 17 = .ok (.getfield 7, 3) := by decide +kernel
theorem dX6_take_20 : decode cX6_take 20 = .ok (.iconst 1, 1) := by decide +kernel
theorem dX6_take_21 : decode cX6_take 21 = .ok (.iload_n 1, 1) := by decide +kernel
theorem dX6_take_22 : decode cX6_take 22 = .ok (.iload_n 2, 1) := by decide +kernel
theorem dX6_take_23 : decode cX6_take 23 = .ok (.invokevirtual 26, 3) := by decide +kernel
theorem dX6_take_26 : decode cX6_take 26 = .ok (.ifCond .eq 7, 3) := by decide +kernel
theorem dX6_take_29 : decode cX6_take 29 = .ok (.iconst 1, 1) := by decide +kernel
theorem dX6_take_30 : decode cX6_take 30 = .ok (.goto 4, 3) := by decide +kernel
theorem dX6_take_33 : decode cX6_take 33 = .ok (.iconst 0, 1) := by decide +kernel
theorem dX6_take_34 : decode cX6_take 34 = .ok (.putfield 32, 3) := by decide +kernel
theorem dX6_take_37 : decode cX6_take 37 = .ok (.aload_n 0, 1) := by decide +kernel
theorem dX6_take_38 : decode cX6_take 38 = .ok (.aload_n 0, 1) := by decide +kernel
theorem dX6_take_39 : decode cX6_take 39 = .ok (.getfield 7, 3) := by decide +kernel
theorem dX6_take_42 : decode cX6_take 42 = .ok (.iconst 0, 1) := by decide +kernel
theorem dX6_take_43 : decode cX6_take 43 = .ok (.iload_n 1, 1) := by decide +kernel
theorem dX6_take_44 : decode cX6_take 44 = .ok (.iload_n 2, 1) := by decide +kernel
theorem dX6_take_45 : decode cX6_take 45 = .ok (.invokevirtual 26, 3) := by decide +kernel
theorem dX6_take_48 : decode cX6_take 48 = .ok (.ifCond .eq 7, 3) := by decide +kernel
theorem dX6_take_51 : decode cX6_take 51 = .ok (.iconst 1, 1) := by decide +kernel
theorem dX6_take_52 : decode cX6_take 52 = .ok (.goto 4, 3) := by decide +kernel
theorem dX6_take_55 : decode cX6_take 55 = .ok (.iconst 0, 1) := by decide +kernel
theorem dX6_take_56 : decode cX6_take 56 = .ok (.putfield 35, 3) := by decide +kernel
theorem dX6_take_59 : decode cX6_take 59 = .ok (.return_, 1) := by decide +kernel
theorem dX6_turn_0 : decode cX6_turn 0 = .ok (.iload_n 1, 1) := by decide +kernel
theorem dX6_turn_1 : decode cX6_turn 1 = .ok (.iconst 1, 1) := by decide +kernel
theorem dX6_turn_2 : decode cX6_turn 2 = .ok (.if_icmp .ne 11, 3) := by decide +kernel
theorem dX6_turn_5 : decode cX6_turn 5 = .ok (.aload_n 0, 1) := by decide +kernel
theorem dX6_turn_6 : decode cX6_turn 6 = .ok (.iconst 0, 1) := by decide +kernel
theorem dX6_turn_7 : decode cX6_turn 7 = .ok (.putfield 20, 3) := by decide +kernel
theorem dX6_turn_10 : decode cX6_turn 10 = .ok (.goto 43, 3) := by decide +kernel
theorem dX6_turn_13 : decode cX6_turn 13 = .ok (.iload_n 1, 1) := by decide +kernel
theorem dX6_turn_14 : decode cX6_turn 14 = .ok (.iconst 2, 1) := by decide +kernel
theorem dX6_turn_15 : decode cX6_turn 15 = .ok (.if_icmp .ne 22, 3) := by decide +kernel
theorem dX6_turn_18 : decode cX6_turn 18 = .ok (.aload_n 0, 1) := by decide +kernel
theorem dX6_turn_19 : decode cX6_turn 19 = .ok (.aload_n 0, 1) := by decide +kernel
theorem dX6_turn_20 : decode cX6_turn 20 = .ok (.getfield 32, 3) := by decide +kernel
theorem dX6_turn_23 : decode cX6_turn 23 = .ok (.ifCond .ne 7, 3) := by decide +kernel
theorem dX6_turn_26 : decode cX6_turn 26 = .ok (.iconst 1, 1) := by decide +kernel
theorem dX6_turn_27 : decode cX6_turn 27 = .ok (.goto 4, 3) := by decide +kernel
theorem dX6_turn_30 : decode cX6_turn 30 = .ok (.iconst 0, 1) := by decide +kernel
theorem dX6_turn_31 : decode cX6_turn 31 = .ok (.putfield 32, 3) := by decide +kernel
theorem dX6_turn_34 : decode cX6_turn 34 = .ok (.goto 19, 3) := by decide +kernel
theorem dX6_turn_37 : decode cX6_turn 37 = .ok (.aload_n 0, 1) := by decide +kernel
theorem dX6_turn_38 : decode cX6_turn 38 = .ok (.aload_n 0, 1) := by decide +kernel
theorem dX6_turn_39 : decode cX6_turn 39 = .ok (.getfield 35, 3) := by decide +kernel
theorem dX6_turn_42 : decode cX6_turn 42 = .ok (.ifCond .ne 7, 3) := by decide +kernel
theorem dX6_turn_45 : decode cX6_turn 45 = .ok (.iconst 1, 1) := by decide +kernel
theorem dX6_turn_46 : decode cX6_turn 46 = .ok (.goto 4, 3) := by decide +kernel
theorem dX6_turn_49 : decode cX6_turn 49 = .ok (.iconst 0, 1) := by decide +kernel
theorem dX6_turn_50 : decode cX6_turn 50 = .ok (.putfield 35, 3) := by decide +kernel
theorem dX6_turn_53 : decode cX6_turn 53 = .ok (.return_, 1) := by decide +kernel
set_option maxRecDepth 20000 in
theorem ggX6_prepare_X8_skips : GoodIn wsX6_prepare wsX8_skips := goodIn_r _ [12, 13, 14, 15, 16, 11, 17, 18, 19, 20, 21, 22, 23, 24, 25, 26, 27, 52, 53, 54, 55, 56, 57, 58, 59, 60, 61, 62, 63] (by decide +kernel) (by decide +kernel)
set_option maxRecDepth 20000 in
theorem gX6_prepare_X8_skips : GoodIn wsX6_prepare (wsV RX6 47 RX8 yX8_skips wsX8_skips) := goodIn_app (goodIn_of _ (by decide +kernel)) ggX6_prepare_X8_skips
theorem dX6_prepare_0 : decode cX6_prepare 0 = .ok (.aload_n 0, 1) := by decide +kernel
theorem dX6_prepare_1 : decode cX6_prepare 1 = .ok (.getfield 20, 3) := by decide +kernel
theorem dX6_prepare_4 : decode cX6_prepare 4 = .ok (.ifCond .eq 36, 3) := by decide +kernel
theorem dX6_prepare_7 : decode cX6_prepare 7 = .ok (.aload_n 1, 1) := by decide +kernel
theorem dX6_prepare_8 : decode cX6_prepare 8 = .ok (.getfield 38, 3) := by decide +kernel
theorem dX6_prepare_11 : decode cX6_prepare 11 = .ok (.ifCond .le 29, 3) := by decide +kernel
theorem dX6_prepare_14 : decode cX6_prepare 14 = .ok (.aload_n 0, 1) := by decide +kernel
theorem dX6_prepare_15 : decode cX6_prepare 15 = .ok (.getfield 7, 3) := by decide +kernel
theorem dX6_prepare_18 : decode cX6_prepare 18 = .ok (.aload_n 1, 1) := by decide +kernel
theorem dX6_prepare_19 : decode cX6_prepare 19 = .ok (.getfield 43, 3) := by decide +kernel
theorem dX6_prepare_22 : decode cX6_prepare 22 = .ok (.aload_n 0, 1) := by decide +kernel
theorem dX6_prepare_23 : decode cX6_prepare 23 = .ok (.getfield 13, 3) := by decide +kernel
theorem dX6_prepare_26 : decode cX6_prepare 26 = .ok (.aload_n 0, 1) := by decide +kernel
theorem dX6_prepare_27 : decode cX6_prepare 27 = .ok (.getfield 17, 3) := by decide +kernel
theorem dX6_prepare_30 : decode cX6_prepare 30 = .ok (.invokevirtual 47, 3) := by decide +kernel
theorem dX6_prepare_33 : decode cX6_prepare 33 = .ok (.ifCond .eq 7, 3) := by decide +kernel
theorem dX6_prepare_36 : decode cX6_prepare 36 = .ok (.iconst 1, 1) := by decide +kernel
theorem dX6_prepare_37 : decode cX6_prepare 37 = .ok (.goto 4, 3) := by decide +kernel
theorem dX6_prepare_40 : decode cX6_prepare 40 = .ok (.iconst 0, 1) := by decide +kernel
theorem dX6_prepare_41 : decode cX6_prepare 41 = .ok (.istore_n 2, 1) := by decide +kernel
theorem dX6_prepare_42 : decode cX6_prepare 42 = .ok (.aload_n 1, 1) := by decide +kernel
theorem dX6_prepare_43 : decode cX6_prepare 43 = .ok (.iload_n 2, 1) := by decide +kernel
theorem dX6_prepare_44 : decode cX6_prepare 44 = .ok (.ifCond .eq 10, 3) := by decide +kernel
theorem dX6_prepare_47 : decode cX6_prepare 47 = .ok (.aload_n 1, 1) := by decide +kernel
theorem dX6_prepare_48 : decode cX6_prepare 48 = .ok (.getfield 38, 3) := by decide +kernel
theorem dX6_prepare_51 : decode cX6_prepare 51 = .ok (.goto 4, 3) := by decide +kernel
theorem dX6_prepare_54 : decode cX6_prepare 54 = .ok (.iconst 0, 1) := by decide +kernel
theorem dX6_prepare_55 : decode cX6_prepare 55 = .ok (.putfield 50, 3) := by decide +kernel
theorem dX6_prepare_58 : decode cX6_prepare 58 = .ok (.return_, 1) := by decide +kernel
set_option maxRecDepth 20000 in
theorem ggX6_isAhead_X6_compareKeys : GoodIn wsX6_isAhead wsX6_compareKeys := goodIn_r _ [6, 7, 8, 9, 10, 11, 12, 13, 14, 15, 16, 17, 5, 18, 19, 20, 21, 22, 23, 24, 25, 26, 27, 28, 29, 30, 31, 32, 33, 34, 35, 36, 37, 38, 39, 40, 41, 42, 43] (by decide +kernel) (by decide +kernel)
set_option maxRecDepth 20000 in
theorem gX6_isAhead_X6_compareKeys : GoodIn wsX6_isAhead (wsV RX6 53 RX6 yX6_compareKeys wsX6_compareKeys) := goodIn_app (goodIn_of _ (by decide +kernel)) ggX6_isAhead_X6_compareKeys
theorem dX6_isAhead_0 : decode cX6_isAhead 0 = .ok (.aload_n 0, 1) := by decide +kernel
theorem dX6_isAhead_1 : decode cX6_isAhead 1 = .ok (.aload_n 1, 1) := by decide +kernel
theorem dX6_isAhead_2 : decode cX6_isAhead 2 = .ok (.aload_n 2, 1) := by decide +kernel
theorem dX6_isAhead_3 : decode cX6_isAhead 3 = .ok (.invokevirtual 53, 3) := by decide +kernel
theorem dX6_isAhead_6 : decode cX6_isAhead 6 = .ok (.istore_n 3, 1) := by decide +kernel
theorem dX6_isAhead_7 : decode cX6_isAhead 7 = .ok (.iload_n 3, 1) := by decide +kernel
theorem dX6_isAhead_8 : decode cX6_isAhead 8 = .ok (.ifCond .lt 18, 3) := by decide +kernel
theorem dX6_isAhead_11 : decode cX6_isAhead 11 = .ok (.iload_n 3, 1) := by decide +kernel
theorem dX6_isAhead_12 : decode cX6_isAhead 12 = .ok (.ifCond .ne 18, 3) := by decide +kernel
theorem dX6_isAhead_15 : decode cX6_isAhead 15 = .ok (.aload_n 1, 1) := by decide +kernel
theorem dX6_isAhead_16 : decode cX6_isAhead 16 = .ok (.getfield 57, 3) := by decide +kernel
theorem dX6_isAhead_19 : decode cX6_isAhead 19 = .ok (.aload_n 2, 1) := by decide +kernel
theorem dX6_isAhead_20 : decode cX6_isAhead 20 = .ok (.getfield 57, 3) := by decide +kernel
theorem dX6_isAhead_23 : decode cX6_isAhead 23 = .ok (.if_icmp .ge 7, 3) := by decide +kernel
theorem dX6_isAhead_26 : decode cX6_isAhead 26 = .ok (.iconst 1, 1) := by decide +kernel
theorem dX6_isAhead_27 : decode cX6_isAhead 27 = .ok (.goto 4, 3) := by decide +kernel
theorem dX6_isAhead_30 : decode cX6_isAhead 30 = .ok (.iconst 0, 1) := by decide +kernel
theorem dX6_isAhead_31 : decode cX6_isAhead 31 = .ok (.ireturn, 1) := by decide +kernel
set_option maxRecDepth 20000 in
theorem ggX6_compareKeys_X0_byteAt : GoodIn wsX6_compareKeys wsX0_byteAt := goodIn_r _ [7, 8, 15, 16, 17, 18, 19, 20, 21, 22, 23, 24, 25, 26, 27, 28, 29, 30, 31, 32] (by decide +kernel) (by decide +kernel)
set_option maxRecDepth 20000 in
theorem gX6_compareKeys_X0_byteAt : GoodIn wsX6_compareKeys (wsV RX6 60 RX0 yX0_byteAt wsX0_byteAt) := goodIn_app (goodIn_of _ (by decide +kernel)) ggX6_compareKeys_X0_byteAt
set_option maxRecDepth 20000 in
theorem ggX6_compareKeys_X6_rank : GoodIn wsX6_compareKeys wsX6_rank := goodIn_r _ [13, 14, 33, 34, 35, 36, 37, 38] (by decide +kernel) (by decide +kernel)
set_option maxRecDepth 20000 in
theorem gX6_compareKeys_X6_rank : GoodIn wsX6_compareKeys (wsV RX6 64 RX6 yX6_rank wsX6_rank) := goodIn_app (goodIn_of _ (by decide +kernel)) ggX6_compareKeys_X6_rank
theorem dX6_compareKeys_0 : decode cX6_compareKeys 0 = .ok (.aload_n 1, 1) := by decide +kernel
theorem dX6_compareKeys_1 : decode cX6_compareKeys 1 = .ok (.getfield 50, 3) := by decide +kernel
theorem dX6_compareKeys_4 : decode cX6_compareKeys 4 = .ok (.istore_n 3, 1) := by decide +kernel
theorem dX6_compareKeys_5 : decode cX6_compareKeys 5 = .ok (.aload_n 2, 1) := by decide +kernel
theorem dX6_compareKeys_6 : decode cX6_compareKeys 6 = .ok (.getfield 50, 3) := by decide +kernel
theorem dX6_compareKeys_9 : decode cX6_compareKeys 9 = .ok (.istore 4, 2) := by decide +kernel
theorem dX6_compareKeys_11 : decode cX6_compareKeys 11 = .ok (.iconst 0, 1) := by decide +kernel
theorem dX6_compareKeys_12 : decode cX6_compareKeys 12 = .ok (.istore 5, 2) := by decide +kernel
theorem dX6_compareKeys_14 : decode cX6_compareKeys 14 = .ok (.iload 5, 2) := by decide +kernel
theorem dX6_compareKeys_16 : decode cX6_compareKeys 16 = .ok (.bipush 12, 2) := by decide +kernel
theorem dX6_compareKeys_18 : decode cX6_compareKeys 18 = .ok (.if_icmp .ge 111, 3) := by decide +kernel
theorem dX6_compareKeys_21 : decode cX6_compareKeys 21 = .ok (.iload_n 3, 1) := by decide +kernel
theorem dX6_compareKeys_22 : decode cX6_compareKeys 22 = .ok (.aload_n 0, 1) := by decide +kernel
theorem dX6_compareKeys_23 : decode cX6_compareKeys 23 = .ok (.getfield 32, 3) := by decide +kernel
theorem dX6_compareKeys_26 : decode cX6_compareKeys 26 = .ok (.ifCond .ne 17, 3) := by decide +kernel
theorem dX6_compareKeys_29 : decode cX6_compareKeys 29 = .ok (.aload_n 1, 1) := by decide +kernel
theorem dX6_compareKeys_30 : decode cX6_compareKeys 30 = .ok (.iload_n 3, 1) := by decide +kernel
theorem dX6_compareKeys_31 : decode cX6_compareKeys 31 = .ok (.invokevirtual 60, 3) := by decide +kernel
theorem dX6_compareKeys_34 : decode cX6_compareKeys 34 = .ok (.bipush 32, 2) := by decide +kernel
theorem dX6_compareKeys_36 : decode cX6_compareKeys 36 = .ok (.if_icmp .ne 7, 3) := by decide +kernel
theorem dX6_compareKeys_39 : decode cX6_compareKeys 39 = .ok (.iconst 1, 1) := by decide +kernel
theorem dX6_compareKeys_40 : decode cX6_compareKeys 40 = .ok (.goto 4, 3) := by decide +kernel
theorem dX6_compareKeys_43 : decode cX6_compareKeys 43 = .ok (.iconst 0, 1) := by decide +kernel
theorem dX6_compareKeys_44 : decode cX6_compareKeys 44 = .ok (.iadd, 1) := by decide +kernel
theorem dX6_compareKeys_45 : decode cX6_compareKeys 45 = .ok (.istore_n 3, 1) := by decide +kernel
theorem dX6_compareKeys_46 : decode cX6_compareKeys 46 = .ok (.iload 4, 2) := by decide +kernel
theorem dX6_compareKeys_48 : decode cX6_compareKeys 48 = .ok (.aload_n 0, 1) := by decide +kernel
theorem dX6_compareKeys_49 : decode cX6_compareKeys 49 = .ok (.getfield 32, 3) := by decide +kernel
theorem dX6_compareKeys_52 : decode cX6_compareKeys 52 = .ok (.ifCond .ne 18, 3) := by decide +kernel
theorem dX6_compareKeys_55 : decode cX6_compareKeys 55 = .ok (.aload_n 2, 1) := by decide +kernel
theorem dX6_compareKeys_56 : decode cX6_compareKeys 56 = .ok (.iload 4, 2) := by decide +kernel
theorem dX6_compareKeys_58 : decode cX6_compareKeys 58 = .ok (.invokevirtual 60, 3) := by decide +kernel
theorem dX6_compareKeys_61 : decode cX6_compareKeys 61 = .ok (.bipush 32, 2) := by decide +kernel
theorem dX6_compareKeys_63 : decode cX6_compareKeys 63 = .ok (.if_icmp .ne 7, 3) := by decide +kernel
theorem dX6_compareKeys_66 : decode cX6_compareKeys 66 = .ok (.iconst 1, 1) := by decide +kernel
theorem dX6_compareKeys_67 : decode cX6_compareKeys 67 = .ok (.goto 4, 3) := by decide +kernel
theorem dX6_compareKeys_70 : decode cX6_compareKeys 70 = .ok (.iconst 0, 1) := by decide +kernel
theorem dX6_compareKeys_71 : decode cX6_compareKeys 71 = .ok (.iadd, 1) := by decide +kernel
theorem dX6_compareKeys_72 : decode cX6_compareKeys 72 = .ok (.istore 4, 2) := by decide +kernel
theorem dX6_compareKeys_74 : decode cX6_compareKeys 74 = .ok (.aload_n 0, 1) := by decide +kernel
theorem dX6_compareKeys_75 : decode cX6_compareKeys 75 = .ok (.aload_n 1, 1) := by decide +kernel
theorem dX6_compareKeys_76 : decode cX6_compareKeys 76 = .ok (.iload_n 3, 1) := by decide +kernel
theorem dX6_compareKeys_77 : decode cX6_compareKeys 77 = .ok (.invokevirtual 60, 3) := by decide +kernel
theorem dX6_compareKeys_80 : decode cX6_compareKeys 80 = .ok (.invokevirtual 64, 3) := by decide +kernel
theorem dX6_compareKeys_83 : decode cX6_compareKeys 83 = .ok (.istore 6, 2) := by decide +kernel
theorem dX6_compareKeys_85 : decode cX6_compareKeys 85 = .ok (.aload_n 0, 1) := by decide +kernel
theorem dX6_compareKeys_86 : decode cX6_compareKeys 86 = .ok (.aload_n 2, 1) := by decide +kernel
theorem dX6_compareKeys_87 : decode cX6_compareKeys 87 = .ok (.iload 4, 2) := by decide +kernel
theorem dX6_compareKeys_89 : decode cX6_compareKeys 89 = .ok (.invokevirtual 60, 3) := by decide +kernel
theorem dX6_compareKeys_92 : decode cX6_compareKeys 92 = .ok (.invokevirtual 64, 3) := by decide +kernel
theorem dX6_compareKeys_95 : decode cX6_compareKeys 95 = .ok (.istore 7, 2) := by decide +kernel
theorem dX6_compareKeys_97 : decode cX6_compareKeys 97 = .ok (.iload 6, 2) := by decide +kernel
theorem dX6_compareKeys_99 : decode cX6_compareKeys 99 = .ok (.iload 7, 2) := by decide +kernel
theorem dX6_compareKeys_101 : decode cX6_compareKeys 101 = .ok (.if_icmp .eq 16, 3) := by decide +kernel
theorem dX6_compareKeys_104 : decode cX6_compareKeys 104 = .ok (.iload 6, 2) := by decide +kernel
theorem dX6_compareKeys_106 : decode cX6_compareKeys 106 = .ok (.iload 7, 2) := by decide +kernel
theorem dX6_compareKeys_108 : decode cX6_compareKeys 108 = .ok (.if_icmp .ge 7, 3) := by decide +kernel
theorem dX6_compareKeys_111 : decode cX6_compareKeys 111 = .ok (.iconst (-1), 1) := by decide +kernel
theorem dX6_compareKeys_112 : decode cX6_compareKeys 112 = .ok (.goto 4, 3) := by decide +kernel
theorem dX6_compareKeys_115 : decode cX6_compareKeys 115 = .ok (.iconst 1, 1) := by decide +kernel
theorem dX6_compareKeys_116 : decode cX6_compareKeys 116 = .ok (.ireturn, 1) := by decide +kernel
theorem dX6_compareKeys_117 : decode cX6_compareKeys 117 = .ok (.iinc 3 1, 3) := by decide +kernel
theorem dX6_compareKeys_120 : decode cX6_compareKeys 120 = .ok (.iinc 4 1, 3) := by decide +kernel
theorem dX6_compareKeys_123 : decode cX6_compareKeys 123 = .ok (.iinc 5 1, 3) := by decide +kernel
theorem dX6_compareKeys_126 : decode cX6_compareKeys 126 = .ok (.goto (-112), 3) := by decide +kernel
theorem dX6_compareKeys_129 : decode cX6_compareKeys 129 = .ok (.iconst 0, 1) := by decide +kernel
theorem dX6_compareKeys_130 : decode cX6_compareKeys 130 = .ok (.ireturn, 1) := by decide +kernel
theorem dX6_rank_0 : decode cX6_rank 0 = .ok (.iload_n 1, 1) := by decide +kernel
theorem dX6_rank_1 : decode cX6_rank 1 = .ok (.ifCond .ne 5, 3) := by decide +kernel
theorem dX6_rank_4 : decode cX6_rank 4 = .ok (.iconst (-1), 1) := by decide +kernel
theorem dX6_rank_5 : decode cX6_rank 5 = .ok (.ireturn, 1) := by decide +kernel
theorem dX6_rank_6 : decode cX6_rank 6 = .ok (.iload_n 1, 1) := by decide +kernel
theorem dX6_rank_7 : decode cX6_rank 7 = .ok (.bipush 32, 2) := by decide +kernel
theorem dX6_rank_9 : decode cX6_rank 9 = .ok (.if_icmp .ne 5, 3) := by decide +kernel
theorem dX6_rank_12 : decode cX6_rank 12 = .ok (.iconst 0, 1) := by decide +kernel
theorem dX6_rank_13 : decode cX6_rank 13 = .ok (.ireturn, 1) := by decide +kernel
theorem dX6_rank_14 : decode cX6_rank 14 = .ok (.iload_n 1, 1) := by decide +kernel
theorem dX6_rank_15 : decode cX6_rank 15 = .ok (.bipush 57, 2) := by decide +kernel
theorem dX6_rank_17 : decode cX6_rank 17 = .ok (.if_icmp .gt 22, 3) := by decide +kernel
theorem dX6_rank_20 : decode cX6_rank 20 = .ok (.aload_n 0, 1) := by decide +kernel
theorem dX6_rank_21 : decode cX6_rank 21 = .ok (.getfield 35, 3) := by decide +kernel
theorem dX6_rank_24 : decode cX6_rank 24 = .ok (.ifCond .eq 7, 3) := by decide +kernel
theorem dX6_rank_27 : decode cX6_rank 27 = .ok (.iconst 1, 1) := by decide +kernel
theorem dX6_rank_28 : decode cX6_rank 28 = .ok (.goto 5, 3) := by decide +kernel
theorem dX6_rank_31 : decode cX6_rank 31 = .ok (.bipush 100, 2) := by decide +kernel
theorem dX6_rank_33 : decode cX6_rank 33 = .ok (.iload_n 1, 1) := by decide +kernel
theorem dX6_rank_34 : decode cX6_rank 34 = .ok (.iadd, 1) := by decide +kernel
theorem dX6_rank_35 : decode cX6_rank 35 = .ok (.bipush 48, 2) := by decide +kernel
theorem dX6_rank_37 : decode cX6_rank 37 = .ok (.isub, 1) := by decide +kernel
theorem dX6_rank_38 : decode cX6_rank 38 = .ok (.ireturn, 1) := by decide +kernel
theorem dX6_rank_39 : decode cX6_rank 39 = .ok (.bipush 50, 2) := by decide +kernel
theorem dX6_rank_41 : decode cX6_rank 41 = .ok (.iload_n 1, 1) := by decide +kernel
theorem dX6_rank_42 : decode cX6_rank 42 = .ok (.iadd, 1) := by decide +kernel
theorem dX6_rank_43 : decode cX6_rank 43 = .ok (.bipush 97, 2) := by decide +kernel
theorem dX6_rank_45 : decode cX6_rank 45 = .ok (.isub, 1) := by decide +kernel
theorem dX6_rank_46 : decode cX6_rank 46 = .ok (.ireturn, 1) := by decide +kernel
theorem dX7_init_0 : decode cX7_init 0 = .ok (.aload_n 0, 1) := by decide +kernel
theorem dX7_init_1 : decode cX7_init 1 = .ok (.invokespecial 3, 3) := by decide +kernel
theorem dX7_init_4 : decode cX7_init 4 = .ok (.aload_n 0, 1) := by decide +kernel
theorem dX7_init_5 : decode cX7_init 5 = .ok (.sipush 600, 3) := by decide +kernel
theorem dX7_init_8 : decode cX7_init 8 = .ok (.newarray .byte, 2) := by decide +kernel
theorem dX7_init_10 : decode cX7_init 10 = .ok (.putfield 11, 3) := by decide +kernel
theorem dX7_init_13 : decode cX7_init 13 = .ok (.aload_n 0, 1) := by decide +kernel
theorem dX7_init_14 : decode cX7_init 14 = .ok (.sipush 601, 3) := by decide +kernel
theorem dX7_init_17 : decode cX7_init 17 = .ok (.newarray .int, 2) := by decide +kernel
theorem dX7_init_19 : decode cX7_init 19 = .ok (.putfield 15, 3) := by decide +kernel
theorem dX7_init_22 : decode cX7_init 22 = .ok (.aload_n 0, 1) := by decide +kernel
theorem dX7_init_23 : decode cX7_init 23 = .ok (.sipush 601, 3) := by decide +kernel
theorem dX7_init_26 : decode cX7_init 26 = .ok (.newarray .int, 2) := by decide +kernel
theorem dX7_init_28 : decode cX7_init 28 = .ok (.putfield 19, 3) := by decide +kernel
theorem dX7_init_31 : decode cX7_init 31 = .ok (.aload_n 0, 1) := by decide +kernel
theorem dX7_init_32 : decode cX7_init 32 = .ok (.sipush 601, 3) := by decide +kernel
theorem dX7_init_35 : decode cX7_init 35 = .ok (.newarray .int, 2) := by decide +kernel
theorem dX7_init_37 : decode cX7_init 37 = .ok (.putfield 22, 3) := by decide +kernel
theorem dX7_init_40 : decode cX7_init 40 = .ok (.aload_n 0, 1) := by decide +kernel
theorem dX7_init_41 : decode cX7_init 41 = .ok (.sipush 601, 3) := by decide +kernel
theorem dX7_init_44 : decode cX7_init 44 = .ok (.newarray .int, 2) := by decide +kernel
theorem dX7_init_46 : decode cX7_init 46 = .ok (.putfield 25, 3) := by decide +kernel
theorem dX7_init_49 : decode cX7_init 49 = .ok (.aload_n 0, 1) := by decide +kernel
theorem dX7_init_50 : decode cX7_init 50 = .ok (.sipush 600, 3) := by decide +kernel
theorem dX7_init_53 : decode cX7_init 53 = .ok (.newarray .int, 2) := by decide +kernel
theorem dX7_init_55 : decode cX7_init 55 = .ok (.putfield 28, 3) := by decide +kernel
theorem dX7_init_58 : decode cX7_init 58 = .ok (.aload_n 0, 1) := by decide +kernel
theorem dX7_init_59 : decode cX7_init 59 = .ok (.bipush 14, 2) := by decide +kernel
theorem dX7_init_61 : decode cX7_init 61 = .ok (.newarray .int, 2) := by decide +kernel
theorem dX7_init_63 : decode cX7_init 63 = .ok (.putfield 33, 3) := by decide +kernel
theorem dX7_init_66 : decode cX7_init 66 = .ok (.aload_n 0, 1) := by decide +kernel
theorem dX7_init_67 : decode cX7_init 67 = .ok (.bipush 14, 2) := by decide +kernel
theorem dX7_init_69 : decode cX7_init 69 = .ok (.newarray .int, 2) := by decide +kernel
theorem dX7_init_71 : decode cX7_init 71 = .ok (.putfield 36, 3) := by decide +kernel
theorem dX7_init_74 : decode cX7_init 74 = .ok (.aload_n 0, 1) := by decide +kernel
theorem dX7_init_75 : decode cX7_init 75 = .ok (.iconst 4, 1) := by decide +kernel
theorem dX7_init_76 : decode cX7_init 76 = .ok (.newarray .long, 2) := by decide +kernel
theorem dX7_init_78 : decode cX7_init 78 = .ok (.putfield 39, 3) := by decide +kernel
theorem dX7_init_81 : decode cX7_init 81 = .ok (.return_, 1) := by decide +kernel
theorem dX7_append_0 : decode cX7_append 0 = .ok (.bipush 24, 2) := by decide +kernel
theorem dX7_append_2 : decode cX7_append 2 = .ok (.istore_n 2, 1) := by decide +kernel
theorem dX7_append_3 : decode cX7_append 3 = .ok (.iload_n 2, 1) := by decide +kernel
theorem dX7_append_4 : decode cX7_append 4 = .ok (.ifCond .lt 49, 3) := by decide +kernel
theorem dX7_append_7 : decode cX7_append 7 = .ok (.aload_n 0, 1) := by decide +kernel
theorem dX7_append_8 : decode cX7_append 8 = .ok (.getfield 43, 3) := by decide +kernel
theorem dX7_append_11 : decode cX7_append 11 = .ok (.ifCond .lt 36, 3) := by decide +kernel
theorem dX7_append_14 : decode cX7_append 14 = .ok (.aload_n 0, 1) := by decide +kernel
theorem dX7_append_15 : decode cX7_append 15 = .ok (.getfield 43, 3) := by decide +kernel
theorem dX7_append_18 : decode cX7_append 18 = .ok (.sipush 600, 3) := by decide +kernel
theorem dX7_append_21 : decode cX7_append 21 = .ok (.if_icmp .ge 26, 3) := by decide +kernel
theorem dX7_append_24 : decode cX7_append 24 = .ok (.aload_n 0, 1) := by decide +kernel
theorem dX7_append_25 : decode cX7_append 25 = .ok (.getfield 11, 3) := by decide +kernel
theorem dX7_append_28 : decode cX7_append 28 = .ok (.aload_n 0, 1) := by decide +kernel
theorem dX7_append_29 : decode cX7_append 29 = .ok (.getfield 43, 3) := by decide +kernel
theorem dX7_append_32 : decode cX7_append 32 = .ok (.iload_n 1, 1) := by decide +kernel
theorem dX7_append_33 : decode cX7_append 33 = .ok (.iload_n 2, 1) := by decide +kernel
theorem dX7_append_34 : decode cX7_append 34 = .ok (.iushr, 1) := by decide +kernel
theorem dX7_append_35 : decode cX7_append 35 = .ok (.i2b, 1) := by decide +kernel
theorem dX7_append_36 : decode cX7_append 36 = .ok (.bastore, 1) := by decide +kernel
theorem dX7_append_37 : decode cX7_append 37 = .ok (.aload_n 0, 1) := by decide +kernel
theorem dX7_append_38 : decode cX7_append 38 = .ok (.dup, 1) := by decide +kernel
theorem dX7_append_39 : decode cX7_append 39 = .ok (.getfield 43, 3) := by decide +kernel
theorem dX7_append_42 : decode cX7_append 42 = .ok (.iconst 1, 1) := by decide +kernel
theorem dX7_append_43 : decode cX7_append 43 = .ok (.iadd, 1) := by decide +kernel
theorem dX7_append_44 : decode cX7_append 44 = .ok (.putfield 43, 3) := by decide +kernel
theorem dX7_append_47 : decode cX7_append 47 = .ok (.iinc 2 (-8), 3) := by decide +kernel
theorem dX7_append_50 : decode cX7_append 50 = .ok (.goto (-47), 3) := by decide +kernel
theorem dX7_append_53 : decode cX7_append 53 = .ok (.return_, 1) := by decide +kernel
set_option maxRecDepth 20000 in
theorem ggX7_parse_X7_scan : GoodIn wsX7_parse wsX7_scan := goodIn_r _ [11, 12, 6, 13, 14, 15, 10, 16, 17, 18, 19, 20, 21, 22, 23, 24, 25, 26, 27, 28, 29, 30, 31, 32, 33, 34, 35, 36, 37, 38, 39, 40, 41, 42, 43, 44, 45, 46, 47, 48, 49, 50, 51, 52, 53, 54, 55, 56, 57, 58, 59, 60, 61, 62, 63, 64, 65, 66, 67, 68, 69, 70, 71, 72, 73, 74, 75, 76, 77, 78, 79, 80, 81, 82, 83, 84, 85, 86, 87, 88, 89, 90, 91, 92, 93, 94, 95, 96, 97, 98, 99, 100, 101, 102, 103, 104, 105, 106, 107, 108, 109, 110, 111, 112, 113, 114, 115, 116, 117, 118, 119, 120, 121, 122, 123, 124, 125, 126, 127, 128, 129, 130, 131, 132, 133, 134, 135, 136, 137, 138, 139, 140, 141, 142, 143, 144, 145, 146, 147, 148, 149, 150, 151, 152, 153, 154, 155, 156, 157, 158, 159, 160, 161, 162, 163, 164, 165, 166, 246, 247, 248, 249, 250, 251, 252, 253, 254, 255, 256, 257, 258, 259, 260] (by decide +kernel) (by decide +kernel)
set_option maxRecDepth 20000 in
theorem gX7_parse_X7_scan : GoodIn wsX7_parse (wsV RX7 47 RX7 yX7_scan wsX7_scan) := goodIn_app (goodIn_of _ (by decide +kernel)) ggX7_parse_X7_scan
set_option maxRecDepth 20000 in
theorem ggX7_parse_J7_fill_53178 : GoodIn wsX7_parse wsJ7_fill_53178 := goodIn_r _ [170] (by decide +kernel) (by decide +kernel)
set_option maxRecDepth 20000 in
theorem gX7_parse_J7_fill_53178 : GoodIn wsX7_parse (va_wsS RX7 62 yJ7_fill_53178 wsJ7_fill_53178) := goodIn_app (goodIn_of _ (by decide +kernel)) ggX7_parse_J7_fill_53178
set_option maxRecDepth 20000 in
theorem ggX7_parse_X7_kind : GoodIn wsX7_parse wsX7_kind := goodIn_r _ [174, 2, 12, 129, 246, 247, 248, 249, 250, 251, 252, 253, 254, 255, 256, 257, 258, 259, 260] (by decide +kernel) (by decide +kernel)
set_option maxRecDepth 20000 in
theorem gX7_parse_X7_kind : GoodIn wsX7_parse (wsV RX7 68 RX7 yX7_kind wsX7_kind) := goodIn_app (goodIn_of _ (by decide +kernel)) ggX7_parse_X7_kind
set_option maxRecDepth 20000 in
theorem ggX7_parse_X7_readClause : GoodIn wsX7_parse wsX7_readClause := goodIn_r _ [178, 179, 180, 181, 10, 182, 132, 2, 171, 172, 173, 174, 12, 129, 183, 184, 185, 186, 1, 187, 188, 189, 190, 4, 131, 130, 191, 192, 193, 194, 195, 6, 13, 14, 15, 16, 17, 196, 197, 198, 199, 5, 3, 200, 201, 202, 203, 204, 205, 206, 207, 208, 209, 210, 211, 212, 213, 214, 215, 216, 217, 218, 219, 220, 221, 222, 223, 224, 225, 226, 227, 228, 166, 229, 230, 231, 232, 233, 234, 235, 236, 237, 238, 239, 240, 241, 242, 243, 244, 245, 246, 247, 248, 249, 250, 251, 252, 253, 254, 255, 256, 257, 258, 259, 260] (by decide +kernel) (by decide +kernel)
set_option maxRecDepth 20000 in
theorem gX7_parse_X7_readClause : GoodIn wsX7_parse (wsV RX7 72 RX7 yX7_readClause wsX7_readClause) := goodIn_app (goodIn_of _ (by decide +kernel)) ggX7_parse_X7_readClause
theorem dX7_parse_0 : decode cX7_parse 0 = .ok (.aload_n 0, 1) := by decide +kernel
theorem dX7_parse_1 : decode cX7_parse 1 = .ok (.invokevirtual 47, 3) := by decide +kernel
theorem dX7_parse_4 : decode cX7_parse 4 = .ok (.aload_n 0, 1) := by decide +kernel
theorem dX7_parse_5 : decode cX7_parse 5 = .ok (.iconst (-1), 1) := by decide +kernel
theorem dX7_parse_6 : decode cX7_parse 6 = .ok (.putfield 50, 3) := by decide +kernel
theorem dX7_parse_9 : decode cX7_parse 9 = .ok (.aload_n 0, 1) := by decide +kernel
theorem dX7_parse_10 : decode cX7_parse 10 = .ok (.iconst 0, 1) := by decide +kernel
theorem dX7_parse_11 : decode cX7_parse 11 = .ok (.putfield 53, 3) := by decide +kernel
theorem dX7_parse_14 : decode cX7_parse 14 = .ok (.aload_n 0, 1) := by decide +kernel
theorem dX7_parse_15 : decode cX7_parse 15 = .ok (.iconst 0, 1) := by decide +kernel
theorem dX7_parse_16 : decode cX7_parse 16 = .ok (.putfield 56, 3) := by decide +kernel
theorem dX7_parse_19 : decode cX7_parse 19 = .ok (.aload_n 0, 1) := by decide +kernel
theorem dX7_parse_20 : decode cX7_parse 20 = .ok (.iconst 0, 1) := by decide +kernel
theorem dX7_parse_21 : decode cX7_parse 21 = .ok (.putfield 59, 3) := by decide +kernel
theorem dX7_parse_24 : decode cX7_parse 24 = .ok (.aload_n 0, 1) := by decide +kernel
theorem dX7_parse_25 : decode cX7_parse 25 = .ok (.getfield 33, 3) := by decide +kernel
theorem dX7_parse_28 : decode cX7_parse 28 = .ok (.iconst (-1), 1) := by decide +kernel
theorem dX7_parse_29 : decode cX7_parse 29 = .ok (.invokestatic 62, 3) := by decide +kernel
theorem dX7_parse_32 : decode cX7_parse 32 = .ok (.iconst 0, 1) := by decide +kernel
theorem dX7_parse_33 : decode cX7_parse 33 = .ok (.istore_n 1, 1) := by decide +kernel
theorem dX7_parse_34 : decode cX7_parse 34 = .ok (.iload_n 1, 1) := by decide +kernel
theorem dX7_parse_35 : decode cX7_parse 35 = .ok (.aload_n 0, 1) := by decide +kernel
theorem dX7_parse_36 : decode cX7_parse 36 = .ok (.getfield 43, 3) := by decide +kernel
theorem dX7_parse_39 : decode cX7_parse 39 = .ok (.if_icmp .gt 28, 3) := by decide +kernel
theorem dX7_parse_42 : decode cX7_parse 42 = .ok (.aload_n 0, 1) := by decide +kernel
theorem dX7_parse_43 : decode cX7_parse 43 = .ok (.getfield 50, 3) := by decide +kernel
theorem dX7_parse_46 : decode cX7_parse 46 = .ok (.iconst (-1), 1) := by decide +kernel
theorem dX7_parse_47 : decode cX7_parse 47 = .ok (.if_icmp .ne 20, 3) := by decide +kernel
theorem dX7_parse_50 : decode cX7_parse 50 = .ok (.aload_n 0, 1) := by decide +kernel
theorem dX7_parse_51 : decode cX7_parse 51 = .ok (.invokevirtual 68, 3) := by decide +kernel
theorem dX7_parse_54 : decode cX7_parse 54 = .ok (.ifCond .eq 13, 3) := by decide +kernel
theorem dX7_parse_57 : decode cX7_parse 57 = .ok (.aload_n 0, 1) := by decide +kernel
theorem dX7_parse_58 : decode cX7_parse 58 = .ok (.invokevirtual 72, 3) := by decide +kernel
theorem dX7_parse_61 : decode cX7_parse 61 = .ok (.iinc 1 1, 3) := by decide +kernel
theorem dX7_parse_64 : decode cX7_parse 64 = .ok (.goto (-30), 3) := by decide +kernel
theorem dX7_parse_67 : decode cX7_parse 67 = .ok (.aload_n 0, 1) := by decide +kernel
theorem dX7_parse_68 : decode cX7_parse 68 = .ok (.getfield 50, 3) := by decide +kernel
theorem dX7_parse_71 : decode cX7_parse 71 = .ok (.ireturn, 1) := by decide +kernel
set_option maxRecDepth 20000 in
theorem ggX7_compiled_X9_init : GoodIn wsX7_compiled wsX9_init := goodIn_r _ [25, 26, 27, 28] (by decide +kernel) (by decide +kernel)
set_option maxRecDepth 20000 in
theorem gX7_compiled_X9_init_n75 : GoodIn wsX7_compiled (wsX9_init) := ggX7_compiled_X9_init
set_option maxRecDepth 20000 in
theorem ggX7_compiled_J7_copyOf_59c91 : GoodIn wsX7_compiled wsJ7_copyOf_59c91 := goodIn_r _ [32, 33, 13, 14, 15, 16, 34, 35, 36, 37, 8, 38, 39, 40, 41, 42] (by decide +kernel) (by decide +kernel)
set_option maxRecDepth 20000 in
theorem gX7_compiled_J7_copyOf_59c91 : GoodIn wsX7_compiled (va_wsS RX7 82 yJ7_copyOf_59c91 wsJ7_copyOf_59c91) := goodIn_app (goodIn_of _ (by decide +kernel)) ggX7_compiled_J7_copyOf_59c91
set_option maxRecDepth 20000 in
theorem ggX7_compiled_J7_copyOf_c38d5 : GoodIn wsX7_compiled wsJ7_copyOf_c38d5 := goodIn_r _ [45, 46, 47, 14, 15, 48, 49, 50, 36, 37, 8, 38, 39, 40, 41, 42] (by decide +kernel) (by decide +kernel)
set_option maxRecDepth 20000 in
theorem gX7_compiled_J7_copyOf_c38d5 : GoodIn wsX7_compiled (va_wsS RX7 94 yJ7_copyOf_c38d5 wsJ7_copyOf_c38d5) := goodIn_app (goodIn_of _ (by decide +kernel)) ggX7_compiled_J7_copyOf_c38d5
theorem dX7_compiled_0 : decode cX7_compiled 0 = .ok (.new 31, 3) := by decide +kernel
theorem dX7_compiled_3 : decode cX7_compiled 3 = .ok (.dup, 1) := by decide +kernel
theorem dX7_compiled_4 : decode cX7_compiled 4 = .ok (.invokespecial 75, 3) := by decide +kernel
theorem dX7_compiled_7 : decode cX7_compiled 7 = .ok (.astore_n 1, 1) := by decide +kernel
theorem dX7_compiled_8 : decode cX7_compiled 8 = .ok (.aload_n 1, 1) := by decide +kernel
theorem dX7_compiled_9 : decode cX7_compiled 9 = .ok (.aload_n 0, 1) := by decide +kernel
theorem dX7_compiled_10 : decode cX7_compiled 10 = .ok (.getfield 28, 3) := by decide +kernel
theorem dX7_compiled_13 : decode cX7_compiled 13 = .ok (.iconst 0, 1) := by decide +kernel
theorem dX7_compiled_14 : decode cX7_compiled 14 = .ok (.aload_n 0, 1) := by decide +kernel
theorem dX7_compiled_15 : decode cX7_compiled 15 = .ok (.getfield 56, 3) := by decide +kernel
theorem dX7_compiled_18 : decode cX7_compiled 18 = .ok (.invokestatic 76, 3) := by decide +kernel
theorem dX7_compiled_21 : decode cX7_compiled 21 = .ok (.invokestatic 82, 3) := by decide +kernel
theorem dX7_compiled_24 : decode cX7_compiled 24 = .ok (.putfield 86, 3) := by decide +kernel
theorem dX7_compiled_27 : decode cX7_compiled 27 = .ok (.aload_n 1, 1) := by decide +kernel
theorem dX7_compiled_28 : decode cX7_compiled 28 = .ok (.aload_n 0, 1) := by decide +kernel
theorem dX7_compiled_29 : decode cX7_compiled 29 = .ok (.getfield 33, 3) := by decide +kernel
theorem dX7_compiled_32 : decode cX7_compiled 32 = .ok (.invokevirtual 87, 3) := by decide +kernel
theorem dX7_compiled_35 : decode cX7_compiled 35 = .ok (.checkcast 88, 3) := by decide +kernel
theorem dX7_compiled_38 : decode cX7_compiled 38 = .ok (.putfield 92, 3) := by decide +kernel
theorem dX7_compiled_41 : decode cX7_compiled 41 = .ok (.aload_n 1, 1) := by decide +kernel
theorem dX7_compiled_42 : decode cX7_compiled 42 = .ok (.aload_n 0, 1) := by decide +kernel
theorem dX7_compiled_43 : decode cX7_compiled 43 = .ok (.getfield 36, 3) := by decide +kernel
theorem dX7_compiled_46 : decode cX7_compiled 46 = .ok (.invokevirtual 87, 3) := by decide +kernel
theorem dX7_compiled_49 : decode cX7_compiled 49 = .ok (.checkcast 88, 3) := by decide +kernel
theorem dX7_compiled_52 : decode cX7_compiled 52 = .ok (.putfield 93, 3) := by decide +kernel
theorem dX7_compiled_55 : decode cX7_compiled 55 = .ok (.aload_n 1, 1) := by decide +kernel
theorem dX7_compiled_56 : decode cX7_compiled 56 = .ok (.aload_n 0, 1) := by decide +kernel
theorem dX7_compiled_57 : decode cX7_compiled 57 = .ok (.getfield 39, 3) := by decide +kernel
theorem dX7_compiled_60 : decode cX7_compiled 60 = .ok (.iconst 0, 1) := by decide +kernel
theorem dX7_compiled_61 : decode cX7_compiled 61 = .ok (.aload_n 0, 1) := by decide +kernel
theorem dX7_compiled_62 : decode cX7_compiled 62 = .ok (.getfield 59, 3) := by decide +kernel
theorem dX7_compiled_65 : decode cX7_compiled 65 = .ok (.invokestatic 76, 3) := by decide +kernel
theorem dX7_compiled_68 : decode cX7_compiled 68 = .ok (.invokestatic 94, 3) := by decide +kernel
theorem dX7_compiled_71 : decode cX7_compiled 71 = .ok (.putfield 97, 3) := by decide +kernel
theorem dX7_compiled_74 : decode cX7_compiled 74 = .ok (.aload_n 1, 1) := by decide +kernel
theorem dX7_compiled_75 : decode cX7_compiled 75 = .ok (.areturn, 1) := by decide +kernel
theorem dX7_byteAt_0 : decode cX7_byteAt 0 = .ok (.iload_n 1, 1) := by decide +kernel
theorem dX7_byteAt_1 : decode cX7_byteAt 1 = .ok (.ifCond .lt 31, 3) := by decide +kernel
theorem dX7_byteAt_4 : decode cX7_byteAt 4 = .ok (.iload_n 1, 1) := by decide +kernel
theorem dX7_byteAt_5 : decode cX7_byteAt 5 = .ok (.aload_n 0, 1) := by decide +kernel
theorem dX7_byteAt_6 : decode cX7_byteAt 6 = .ok (.getfield 43, 3) := by decide +kernel
theorem dX7_byteAt_9 : decode cX7_byteAt 9 = .ok (.if_icmp .ge 23, 3) := by decide +kernel
theorem dX7_byteAt_12 : decode cX7_byteAt 12 = .ok (.iload_n 1, 1) := by decide +kernel
theorem dX7_byteAt_13 : decode cX7_byteAt 13 = .ok (.sipush 600, 3) := by decide +kernel
theorem dX7_byteAt_16 : decode cX7_byteAt 16 = .ok (.if_icmp .ge 16, 3) := by decide +kernel
theorem dX7_byteAt_19 : decode cX7_byteAt 19 = .ok (.aload_n 0, 1) := by decide +kernel
theorem dX7_byteAt_20 : decode cX7_byteAt 20 = .ok (.getfield 11, 3) := by decide +kernel
theorem dX7_byteAt_23 : decode cX7_byteAt 23 = .ok (.iload_n 1, 1) := by decide +kernel
theorem dX7_byteAt_24 : decode cX7_byteAt 24 = .ok (.baload, 1) := by decide +kernel
theorem dX7_byteAt_25 : decode cX7_byteAt 25 = .ok (.sipush 255, 3) := by decide +kernel
theorem dX7_byteAt_28 : decode cX7_byteAt 28 = .ok (.iand, 1) := by decide +kernel
theorem dX7_byteAt_29 : decode cX7_byteAt 29 = .ok (.goto 4, 3) := by decide +kernel
theorem dX7_byteAt_32 : decode cX7_byteAt 32 = .ok (.iconst 0, 1) := by decide +kernel
theorem dX7_byteAt_33 : decode cX7_byteAt 33 = .ok (.ireturn, 1) := by decide +kernel
theorem dX7_isLetter_0 : decode cX7_isLetter 0 = .ok (.iload_n 0, 1) := by decide +kernel
theorem dX7_isLetter_1 : decode cX7_isLetter 1 = .ok (.bipush 97, 2) := by decide +kernel
theorem dX7_isLetter_3 : decode cX7_isLetter 3 = .ok (.if_icmp .lt 13, 3) := by decide +kernel
theorem dX7_isLetter_6 : decode cX7_isLetter 6 = .ok (.iload_n 0, 1) := by decide +kernel
theorem dX7_isLetter_7 : decode cX7_isLetter 7 = .ok (.bipush 122, 2) := by decide +kernel
theorem dX7_isLetter_9 : decode cX7_isLetter 9 = .ok (.if_icmp .gt 7, 3) := by decide +kernel
theorem dX7_isLetter_12 : decode cX7_isLetter 12 = .ok (.iconst 1, 1) := by decide +kernel
theorem dX7_isLetter_13 : decode cX7_isLetter 13 = .ok (.goto 4, 3) := by decide +kernel
theorem dX7_isLetter_16 : decode cX7_isLetter 16 = .ok (.iconst 0, 1) := by decide +kernel
theorem dX7_isLetter_17 : decode cX7_isLetter 17 = .ok (.ireturn, 1) := by decide +kernel
set_option maxRecDepth 20000 in
theorem ggX7_isSign_J0_indexOf_0f7a4 : GoodIn wsX7_isSign wsJ0_indexOf_0f7a4 := goodIn_r _ [5, 6, 7, 8, 4, 9, 10, 11, 12, 13, 14, 15, 16, 17, 18, 19, 20, 21, 22, 23, 24, 25, 26, 27, 28, 29, 30, 31, 32, 33, 34, 35, 36, 37, 38, 39, 40, 41, 42, 43, 44, 45, 46, 47, 48, 49, 50, 51, 52, 53, 54, 55, 56, 57, 58, 59, 60, 61, 62, 63, 64, 65, 66, 67, 68, 69, 70, 71, 72, 73, 74, 75, 76, 77, 78, 79, 80, 81, 82, 83, 84, 85, 86, 87, 88, 89] (by decide +kernel) (by decide +kernel)
set_option maxRecDepth 20000 in
theorem gX7_isSign_J0_indexOf_0f7a4 : GoodIn wsX7_isSign (wsV RX7 100 RJ0 yJ0_indexOf_0f7a4 wsJ0_indexOf_0f7a4) := goodIn_app (goodIn_of _ (by decide +kernel)) ggX7_isSign_J0_indexOf_0f7a4
theorem dX7_isSign_0 : decode cX7_isSign 0 = .ok (.iload_n 0, 1) := by decide +kernel
theorem dX7_isSign_1 : decode cX7_isSign 1 = .ok (.ifCond .le 17, 3) := by decide +kernel
theorem dX7_isSign_4 : decode cX7_isSign 4 = .ok (.ldc 98, 2) := by decide +kernel
theorem dX7_isSign_6 : decode cX7_isSign 6 = .ok (.iload_n 0, 1) := by decide +kernel
theorem dX7_isSign_7 : decode cX7_isSign 7 = .ok (.i2c, 1) := by decide +kernel
theorem dX7_isSign_8 : decode cX7_isSign 8 = .ok (.invokevirtual 100, 3) := by decide +kernel
theorem dX7_isSign_11 : decode cX7_isSign 11 = .ok (.ifCond .lt 7, 3) := by decide +kernel
theorem dX7_isSign_14 : decode cX7_isSign 14 = .ok (.iconst 1, 1) := by decide +kernel
theorem dX7_isSign_15 : decode cX7_isSign 15 = .ok (.goto 4, 3) := by decide +kernel
theorem dX7_isSign_18 : decode cX7_isSign 18 = .ok (.iconst 0, 1) := by decide +kernel
theorem dX7_isSign_19 : decode cX7_isSign 19 = .ok (.ireturn, 1) := by decide +kernel
set_option maxRecDepth 20000 in
theorem ggX7_scan_X7_byteAt : GoodIn wsX7_scan wsX7_byteAt := goodIn_r _ [7, 2, 8, 158, 159, 160, 161, 162, 163, 164, 165, 166, 167, 168, 169, 170, 171, 172] (by decide +kernel) (by decide +kernel)
set_option maxRecDepth 20000 in
theorem gX7_scan_X7_byteAt : GoodIn wsX7_scan (wsV RX7 109 RX7 yX7_byteAt wsX7_byteAt) := goodIn_app (goodIn_of _ (by decide +kernel)) ggX7_scan_X7_byteAt
set_option maxRecDepth 20000 in
theorem ggX7_scan_X7_kindAt : GoodIn wsX7_scan wsX7_kindAt := goodIn_r _ [12, 2, 3, 4, 5, 6, 7, 8, 13, 14, 15, 16, 17, 18, 19, 20, 21, 22, 23, 24, 25, 26, 27, 28, 29, 30, 31, 32, 33, 34, 35, 36, 37, 38, 39, 40, 41, 42, 43, 44, 45, 46, 47, 48, 49, 50, 51, 52, 53, 54, 55, 56, 57, 58, 59, 60, 61, 62, 63, 64, 65, 66, 67, 68, 69, 70, 71, 72, 73, 74, 75, 76, 77, 78, 79, 80, 81, 82, 83, 84, 85, 86, 87, 88, 89, 90, 91, 92, 93, 94, 95, 96, 97, 98, 99, 100, 101, 102, 103, 104, 105, 106, 107, 108, 109, 110, 111, 158, 159, 160, 161, 162, 163, 164, 165, 166, 167, 168, 169, 170, 171, 172] (by decide +kernel) (by decide +kernel)
set_option maxRecDepth 20000 in
theorem gX7_scan_X7_kindAt : GoodIn wsX7_scan (wsV RX7 112 RX7 yX7_kindAt wsX7_kindAt) := goodIn_app (goodIn_of _ (by decide +kernel)) ggX7_scan_X7_kindAt
set_option maxRecDepth 20000 in
theorem ggX7_scan_X7_stopAt : GoodIn wsX7_scan wsX7_stopAt := goodIn_r _ [115, 2, 3, 4, 5, 6, 7, 8, 13, 14, 15, 16, 17, 18, 19, 158, 159, 160, 161, 162, 163, 164, 165, 166, 167, 168, 169, 170, 171, 172] (by decide +kernel) (by decide +kernel)
set_option maxRecDepth 20000 in
theorem gX7_scan_X7_stopAt : GoodIn wsX7_scan (wsV RX7 115 RX7 yX7_stopAt wsX7_stopAt) := goodIn_app (goodIn_of _ (by decide +kernel)) ggX7_scan_X7_stopAt
set_option maxRecDepth 20000 in
theorem ggX7_scan_X7_addToken : GoodIn wsX7_scan wsX7_addToken := goodIn_r _ [119, 1, 120, 121, 122, 123, 124, 125, 126, 6, 127, 128, 40, 41, 26, 42, 32, 43, 44, 45, 46, 37, 38, 129, 130, 131, 132, 33, 34, 35, 36, 133, 134, 49, 135, 136, 137, 138, 83, 139, 140, 86, 141, 142, 143, 66, 144, 145, 146, 147, 77, 78, 79, 148, 91, 92, 93, 94, 95, 96, 149, 150, 151, 152, 3, 4, 5, 7, 2, 8, 153, 154, 155, 156, 157, 158, 159, 160, 161, 162, 163, 164, 165, 166, 167, 168, 169, 170, 171, 172] (by decide +kernel) (by decide +kernel)
set_option maxRecDepth 20000 in
theorem gX7_scan_X7_addToken : GoodIn wsX7_scan (wsV RX7 118 RX7 yX7_addToken wsX7_addToken) := goodIn_app (goodIn_of _ (by decide +kernel)) ggX7_scan_X7_addToken
theorem dX7_scan_0 : decode cX7_scan 0 = .ok (.aload_n 0, 1) := by decide +kernel
theorem dX7_scan_1 : decode cX7_scan 1 = .ok (.iconst 0, 1) := by decide +kernel
theorem dX7_scan_2 : decode cX7_scan 2 = .ok (.putfield 106, 3) := by decide +kernel
theorem dX7_scan_5 : decode cX7_scan 5 = .ok (.iconst 0, 1) := by decide +kernel
theorem dX7_scan_6 : decode cX7_scan 6 = .ok (.istore_n 1, 1) := by decide +kernel
theorem dX7_scan_7 : decode cX7_scan 7 = .ok (.iconst 1, 1) := by decide +kernel
theorem dX7_scan_8 : decode cX7_scan 8 = .ok (.istore_n 2, 1) := by decide +kernel
theorem dX7_scan_9 : decode cX7_scan 9 = .ok (.iconst 0, 1) := by decide +kernel
theorem dX7_scan_10 : decode cX7_scan 10 = .ok (.istore_n 3, 1) := by decide +kernel
theorem dX7_scan_11 : decode cX7_scan 11 = .ok (.iload_n 3, 1) := by decide +kernel
theorem dX7_scan_12 : decode cX7_scan 12 = .ok (.aload_n 0, 1) := by decide +kernel
theorem dX7_scan_13 : decode cX7_scan 13 = .ok (.getfield 43, 3) := by decide +kernel
theorem dX7_scan_16 : decode cX7_scan 16 = .ok (.if_icmp .gt 77, 3) := by decide +kernel
theorem dX7_scan_19 : decode cX7_scan 19 = .ok (.iload_n 2, 1) := by decide +kernel
theorem dX7_scan_20 : decode cX7_scan 20 = .ok (.ifCond .eq 73, 3) := by decide +kernel
theorem dX7_scan_23 : decode cX7_scan 23 = .ok (.iload_n 2, 1) := by decide +kernel
theorem dX7_scan_24 : decode cX7_scan 24 = .ok (.iconst 3, 1) := by decide +kernel
theorem dX7_scan_25 : decode cX7_scan 25 = .ok (.if_icmp .eq 68, 3) := by decide +kernel
theorem dX7_scan_28 : decode cX7_scan 28 = .ok (.iload_n 1, 1) := by decide +kernel
theorem dX7_scan_29 : decode cX7_scan 29 = .ok (.aload_n 0, 1) := by decide +kernel
theorem dX7_scan_30 : decode cX7_scan 30 = .ok (.getfield 43, 3) := by decide +kernel
theorem dX7_scan_33 : decode cX7_scan 33 = .ok (.if_icmp .ge 29, 3) := by decide +kernel
theorem dX7_scan_36 : decode cX7_scan 36 = .ok (.aload_n 0, 1) := by decide +kernel
theorem dX7_scan_37 : decode cX7_scan 37 = .ok (.iload_n 1, 1) := by decide +kernel
theorem dX7_scan_38 : decode cX7_scan 38 = .ok (.invokevirtual 109, 3) := by decide +kernel
theorem dX7_scan_41 : decode cX7_scan 41 = .ok (.bipush 32, 2) := by decide +kernel
theorem dX7_scan_43 : decode cX7_scan 43 = .ok (.if_icmp .eq 13, 3) := by decide +kernel
theorem dX7_scan_46 : decode cX7_scan 46 = .ok (.aload_n 0, 1) := by decide +kernel
theorem dX7_scan_47 : decode cX7_scan 47 = .ok (.iload_n 1, 1) := by decide +kernel
theorem dX7_scan_48 : decode cX7_scan 48 = .ok (.invokevirtual 109, 3) := by decide +kernel
theorem dX7_scan_51 : decode cX7_scan 51 = .ok (.bipush 10, 2) := by decide +kernel
theorem dX7_scan_53 : decode cX7_scan 53 = .ok (.if_icmp .ne 9, 3) := by decide +kernel
theorem dX7_scan_56 : decode cX7_scan 56 = .ok (.iinc 1 1, 3) := by decide +kernel
theorem dX7_scan_59 : decode cX7_scan 59 = .ok (.goto (-31), 3) := by decide +kernel
theorem dX7_scan_62 : decode cX7_scan 62 = .ok (.aload_n 0, 1) := by decide +kernel
theorem dX7_scan_63 : decode cX7_scan 63 = .ok (.iload_n 1, 1) := by decide +kernel
theorem dX7_scan_64 : decode cX7_scan 64 = .ok (.invokevirtual 112, 3) := by decide +kernel
theorem dX7_scan_67 : decode cX7_scan 67 = .ok (.istore_n 2, 1) := by decide +kernel
theorem dX7_scan_68 : decode cX7_scan 68 = .ok (.aload_n 0, 1) := by decide +kernel
theorem dX7_scan_69 : decode cX7_scan 69 = .ok (.iload_n 1, 1) := by decide +kernel
theorem dX7_scan_70 : decode cX7_scan 70 = .ok (.iload_n 2, 1) := by decide +kernel
theorem dX7_scan_71 : decode cX7_scan 71 = .ok (.invokevirtual 115, 3) := by decide +kernel
theorem dX7_scan_74 : decode cX7_scan 74 = .ok (.istore 4, 2) := by decide +kernel
theorem dX7_scan_76 : decode cX7_scan 76 = .ok (.aload_n 0, 1) := by decide +kernel
theorem dX7_scan_77 : decode cX7_scan 77 = .ok (.iload_n 2, 1) := by decide +kernel
theorem dX7_scan_78 : decode cX7_scan 78 = .ok (.iload_n 1, 1) := by decide +kernel
theorem dX7_scan_79 : decode cX7_scan 79 = .ok (.iload 4, 2) := by decide +kernel
theorem dX7_scan_81 : decode cX7_scan 81 = .ok (.invokevirtual 118, 3) := by decide +kernel
theorem dX7_scan_84 : decode cX7_scan 84 = .ok (.iload 4, 2) := by decide +kernel
theorem dX7_scan_86 : decode cX7_scan 86 = .ok (.istore_n 1, 1) := by decide +kernel
theorem dX7_scan_87 : decode cX7_scan 87 = .ok (.iinc 3 1, 3) := by decide +kernel
theorem dX7_scan_90 : decode cX7_scan 90 = .ok (.goto (-79), 3) := by decide +kernel
theorem dX7_scan_93 : decode cX7_scan 93 = .ok (.return_, 1) := by decide +kernel
set_option maxRecDepth 20000 in
theorem ggX7_kindAt_X7_byteAt : GoodIn wsX7_kindAt wsX7_byteAt := goodIn_r _ [6, 1, 7, 107, 108, 109, 110, 111, 112, 113, 114, 115, 116, 117, 118, 119, 120, 121] (by decide +kernel) (by decide +kernel)
set_option maxRecDepth 20000 in
theorem gX7_kindAt_X7_byteAt : GoodIn wsX7_kindAt (wsV RX7 109 RX7 yX7_byteAt wsX7_byteAt) := goodIn_app (goodIn_of _ (by decide +kernel)) ggX7_kindAt_X7_byteAt
set_option maxRecDepth 20000 in
theorem ggX7_kindAt_X7_isLetter : GoodIn wsX7_kindAt wsX7_isLetter := goodIn_r _ [10] (by decide +kernel) (by decide +kernel)
set_option maxRecDepth 20000 in
theorem gX7_kindAt_X7_isLetter : GoodIn wsX7_kindAt (va_wsS RX7 122 yX7_isLetter wsX7_isLetter) := goodIn_app (goodIn_of _ (by decide +kernel)) ggX7_kindAt_X7_isLetter
set_option maxRecDepth 20000 in
theorem ggX7_kindAt_X0_isDigit : GoodIn wsX7_kindAt wsX0_isDigit := goodIn_r _ [14] (by decide +kernel) (by decide +kernel)
set_option maxRecDepth 20000 in
theorem gX7_kindAt_X0_isDigit : GoodIn wsX7_kindAt (va_wsS RX7 126 yX0_isDigit wsX0_isDigit) := goodIn_app (goodIn_of _ (by decide +kernel)) ggX7_kindAt_X0_isDigit
set_option maxRecDepth 20000 in
theorem ggX7_kindAt_X7_isSign : GoodIn wsX7_kindAt wsX7_isSign := goodIn_r _ [17, 18, 19, 20, 21, 22, 23, 24, 25, 26, 27, 28, 29, 30, 31, 32, 33, 34, 35, 36, 37, 38, 39, 40, 41, 42, 43, 44, 45, 46, 47, 48, 49, 50, 51, 52, 53, 54, 55, 56, 57, 58, 59, 60, 61, 62, 63, 64, 65, 66, 67, 68, 69, 70, 71, 72, 73, 74, 75, 76, 77, 78, 79, 80, 81, 82, 83, 84, 85, 86, 87, 88, 89, 90, 91, 92, 93, 94, 95, 96, 97, 98, 99, 100, 101, 102, 103, 104, 105, 106] (by decide +kernel) (by decide +kernel)
set_option maxRecDepth 20000 in
theorem gX7_kindAt_X7_isSign : GoodIn wsX7_kindAt (va_wsS RX7 131 yX7_isSign wsX7_isSign) := goodIn_app (goodIn_of _ (by decide +kernel)) ggX7_kindAt_X7_isSign
theorem dX7_kindAt_0 : decode cX7_kindAt 0 = .ok (.aload_n 0, 1) := by decide +kernel
theorem dX7_kindAt_1 : decode cX7_kindAt 1 = .ok (.iload_n 1, 1) := by decide +kernel
theorem dX7_kindAt_2 : decode cX7_kindAt 2 = .ok (.invokevirtual 109, 3) := by decide +kernel
theorem dX7_kindAt_5 : decode cX7_kindAt 5 = .ok (.istore_n 2, 1) := by decide +kernel
theorem dX7_kindAt_6 : decode cX7_kindAt 6 = .ok (.iload_n 1, 1) := by decide +kernel
theorem dX7_kindAt_7 : decode cX7_kindAt 7 = .ok (.aload_n 0, 1) := by decide +kernel
theorem dX7_kindAt_8 : decode cX7_kindAt 8 = .ok (.getfield 43, 3) := by decide +kernel
theorem dX7_kindAt_11 : decode cX7_kindAt 11 = .ok (.if_icmp .lt 5, 3) := by decide +kernel
theorem dX7_kindAt_14 : decode cX7_kindAt 14 = .ok (.iconst 0, 1) := by decide +kernel
theorem dX7_kindAt_15 : decode cX7_kindAt 15 = .ok (.ireturn, 1) := by decide +kernel
theorem dX7_kindAt_16 : decode cX7_kindAt 16 = .ok (.iload_n 2, 1) := by decide +kernel
theorem dX7_kindAt_17 : decode cX7_kindAt 17 = .ok (.invokestatic 122, 3) := by decide +kernel
theorem dX7_kindAt_20 : decode cX7_kindAt 20 = .ok (.ifCond .eq 5, 3) := by decide +kernel
theorem dX7_kindAt_23 : decode cX7_kindAt 23 = .ok (.iconst 1, 1) := by decide +kernel
theorem dX7_kindAt_24 : decode cX7_kindAt 24 = .ok (.ireturn, 1) := by decide +kernel
theorem dX7_kindAt_25 : decode cX7_kindAt 25 = .ok (.iload_n 2, 1) := by decide +kernel
theorem dX7_kindAt_26 : decode cX7_kindAt 26 = .ok (.invokestatic 126, 3) := by decide +kernel
theorem dX7_kindAt_29 : decode cX7_kindAt 29 = .ok (.ifCond .eq 5, 3) := by decide +kernel
theorem dX7_kindAt_32 : decode cX7_kindAt 32 = .ok (.iconst 2, 1) := by decide +kernel
theorem dX7_kindAt_33 : decode cX7_kindAt 33 = .ok (.ireturn, 1) := by decide +kernel
theorem dX7_kindAt_34 : decode cX7_kindAt 34 = .ok (.iload_n 2, 1) := by decide +kernel
theorem dX7_kindAt_35 : decode cX7_kindAt 35 = .ok (.invokestatic 131, 3) := by decide +kernel
theorem dX7_kindAt_38 : decode cX7_kindAt 38 = .ok (.ifCond .eq 7, 3) := by decide +kernel
theorem dX7_kindAt_41 : decode cX7_kindAt 41 = .ok (.iload_n 2, 1) := by decide +kernel
theorem dX7_kindAt_42 : decode cX7_kindAt 42 = .ok (.goto 4, 3) := by decide +kernel
theorem dX7_kindAt_45 : decode cX7_kindAt 45 = .ok (.iconst 3, 1) := by decide +kernel
theorem dX7_kindAt_46 : decode cX7_kindAt 46 = .ok (.ireturn, 1) := by decide +kernel
set_option maxRecDepth 20000 in
theorem ggX7_stopAt_X7_byteAt : GoodIn wsX7_stopAt wsX7_byteAt := goodIn_r _ [6, 1, 7, 15, 16, 17, 18, 19, 20, 21, 22, 23, 24, 25, 26, 27, 28, 29] (by decide +kernel) (by decide +kernel)
set_option maxRecDepth 20000 in
theorem gX7_stopAt_X7_byteAt : GoodIn wsX7_stopAt (wsV RX7 109 RX7 yX7_byteAt wsX7_byteAt) := goodIn_app (goodIn_of _ (by decide +kernel)) ggX7_stopAt_X7_byteAt
set_option maxRecDepth 20000 in
theorem ggX7_stopAt_X7_isLetter : GoodIn wsX7_stopAt wsX7_isLetter := goodIn_r _ [10] (by decide +kernel) (by decide +kernel)
set_option maxRecDepth 20000 in
theorem gX7_stopAt_X7_isLetter : GoodIn wsX7_stopAt (va_wsS RX7 122 yX7_isLetter wsX7_isLetter) := goodIn_app (goodIn_of _ (by decide +kernel)) ggX7_stopAt_X7_isLetter
set_option maxRecDepth 20000 in
theorem ggX7_stopAt_X0_isDigit : GoodIn wsX7_stopAt wsX0_isDigit := goodIn_r _ [14] (by decide +kernel) (by decide +kernel)
set_option maxRecDepth 20000 in
theorem gX7_stopAt_X0_isDigit : GoodIn wsX7_stopAt (va_wsS RX7 126 yX0_isDigit wsX0_isDigit) := goodIn_app (goodIn_of _ (by decide +kernel)) ggX7_stopAt_X0_isDigit
theorem dX7_stopAt_0 : decode cX7_stopAt 0 = .ok (.iload_n 1, 1) := by decide +kernel
theorem dX7_stopAt_1 : decode cX7_stopAt 1 = .ok (.iconst 1, 1) := by decide +kernel
theorem dX7_stopAt_2 : decode cX7_stopAt 2 = .ok (.iadd, 1) := by decide +kernel
theorem dX7_stopAt_3 : decode cX7_stopAt 3 = .ok (.istore_n 3, 1) := by decide +kernel
theorem dX7_stopAt_4 : decode cX7_stopAt 4 = .ok (.iload_n 3, 1) := by decide +kernel
theorem dX7_stopAt_5 : decode cX7_stopAt 5 = .ok (.aload_n 0, 1) := by decide +kernel
theorem dX7_stopAt_6 : decode cX7_stopAt 6 = .ok (.getfield 43, 3) := by decide +kernel
theorem dX7_stopAt_9 : decode cX7_stopAt 9 = .ok (.if_icmp .ge 25, 3) := by decide +kernel
theorem dX7_stopAt_12 : decode cX7_stopAt 12 = .ok (.iload_n 2, 1) := by decide +kernel
theorem dX7_stopAt_13 : decode cX7_stopAt 13 = .ok (.iconst 1, 1) := by decide +kernel
theorem dX7_stopAt_14 : decode cX7_stopAt 14 = .ok (.if_icmp .ne 20, 3) := by decide +kernel
theorem dX7_stopAt_17 : decode cX7_stopAt 17 = .ok (.aload_n 0, 1) := by decide +kernel
theorem dX7_stopAt_18 : decode cX7_stopAt 18 = .ok (.iload_n 3, 1) := by decide +kernel
theorem dX7_stopAt_19 : decode cX7_stopAt 19 = .ok (.invokevirtual 109, 3) := by decide +kernel
theorem dX7_stopAt_22 : decode cX7_stopAt 22 = .ok (.invokestatic 122, 3) := by decide +kernel
theorem dX7_stopAt_25 : decode cX7_stopAt 25 = .ok (.ifCond .eq 9, 3) := by decide +kernel
theorem dX7_stopAt_28 : decode cX7_stopAt 28 = .ok (.iinc 3 1, 3) := by decide +kernel
theorem dX7_stopAt_31 : decode cX7_stopAt 31 = .ok (.goto (-27), 3) := by decide +kernel
theorem dX7_stopAt_34 : decode cX7_stopAt 34 = .ok (.iload_n 3, 1) := by decide +kernel
theorem dX7_stopAt_35 : decode cX7_stopAt 35 = .ok (.aload_n 0, 1) := by decide +kernel
theorem dX7_stopAt_36 : decode cX7_stopAt 36 = .ok (.getfield 43, 3) := by decide +kernel
theorem dX7_stopAt_39 : decode cX7_stopAt 39 = .ok (.if_icmp .ge 25, 3) := by decide +kernel
theorem dX7_stopAt_42 : decode cX7_stopAt 42 = .ok (.iload_n 2, 1) := by decide +kernel
theorem dX7_stopAt_43 : decode cX7_stopAt 43 = .ok (.iconst 2, 1) := by decide +kernel
theorem dX7_stopAt_44 : decode cX7_stopAt 44 = .ok (.if_icmp .ne 20, 3) := by decide +kernel
theorem dX7_stopAt_47 : decode cX7_stopAt 47 = .ok (.aload_n 0, 1) := by decide +kernel
theorem dX7_stopAt_48 : decode cX7_stopAt 48 = .ok (.iload_n 3, 1) := by decide +kernel
theorem dX7_stopAt_49 : decode cX7_stopAt 49 = .ok (.invokevirtual 109, 3) := by decide +kernel
theorem dX7_stopAt_52 : decode cX7_stopAt 52 = .ok (.invokestatic 126, 3) := by decide +kernel
theorem dX7_stopAt_55 : decode cX7_stopAt 55 = .ok (.ifCond .eq 9, 3) := by decide +kernel
theorem dX7_stopAt_58 : decode cX7_stopAt 58 = .ok (.iinc 3 1, 3) := by decide +kernel
theorem dX7_stopAt_61 : decode cX7_stopAt 61 = .ok (.goto (-27), 3) := by decide +kernel
theorem dX7_stopAt_64 : decode cX7_stopAt 64 = .ok (.iload_n 3, 1) := by decide +kernel
theorem dX7_stopAt_65 : decode cX7_stopAt 65 = .ok (.ireturn, 1) := by decide +kernel
set_option maxRecDepth 20000 in
theorem ggX7_addToken_X7_wordAt : GoodIn wsX7_addToken wsX7_wordAt := goodIn_r _ [10, 11, 12, 13, 14, 15, 16, 17, 18, 19, 20, 21, 22, 23, 24, 25, 26, 27, 28, 29, 30, 31, 32, 33, 34, 35, 36, 37, 38, 39, 40, 41, 42, 43, 44, 45, 46, 47, 48, 49, 50, 51, 52, 53, 54, 55, 56, 57, 58, 59, 60, 61, 62, 9, 63, 64, 65, 66, 67, 68, 69, 75, 76, 77, 78, 79, 80, 81, 82, 83, 84, 85, 86, 87, 88, 89] (by decide +kernel) (by decide +kernel)
set_option maxRecDepth 20000 in
theorem gX7_addToken_X7_wordAt : GoodIn wsX7_addToken (wsV RX7 134 RX7 yX7_wordAt wsX7_wordAt) := goodIn_app (goodIn_of _ (by decide +kernel)) ggX7_addToken_X7_wordAt
set_option maxRecDepth 20000 in
theorem ggX7_addToken_X7_numberAt : GoodIn wsX7_addToken wsX7_numberAt := goodIn_r _ [73, 74, 64, 65, 66, 9, 67, 68, 69, 75, 76, 77, 78, 79, 80, 81, 82, 83, 84, 85, 86, 87, 88, 89] (by decide +kernel) (by decide +kernel)
set_option maxRecDepth 20000 in
theorem gX7_addToken_X7_numberAt : GoodIn wsX7_addToken (wsV RX7 137 RX7 yX7_numberAt wsX7_numberAt) := goodIn_app (goodIn_of _ (by decide +kernel)) ggX7_addToken_X7_numberAt
theorem dX7_addToken_0 : decode cX7_addToken 0 = .ok (.aload_n 0, 1) := by decide +kernel
theorem dX7_addToken_1 : decode cX7_addToken 1 = .ok (.getfield 106, 3) := by decide +kernel
theorem dX7_addToken_4 : decode cX7_addToken 4 = .ok (.ifCond .lt 93, 3) := by decide +kernel
theorem dX7_addToken_7 : decode cX7_addToken 7 = .ok (.aload_n 0, 1) := by decide +kernel
theorem dX7_addToken_8 : decode cX7_addToken 8 = .ok (.getfield 106, 3) := by decide +kernel
theorem dX7_addToken_11 : decode cX7_addToken 11 = .ok (.aload_n 0, 1) := by decide +kernel
theorem dX7_addToken_12 : decode cX7_addToken 12 = .ok (.getfield 15, 3) := by decide +kernel
theorem dX7_addToken_15 : decode cX7_addToken 15 = .ok (.arraylength, 1) := by decide +kernel
theorem dX7_addToken_16 : decode cX7_addToken 16 = .ok (.if_icmp .ge 81, 3) := by decide +kernel
theorem dX7_addToken_19 : decode cX7_addToken 19 = .ok (.aload_n 0, 1) := by decide +kernel
theorem dX7_addToken_20 : decode cX7_addToken 20 = .ok (.getfield 15, 3) := by decide +kernel
theorem dX7_addToken_23 : decode cX7_addToken 23 = .ok (.aload_n 0, 1) := by decide +kernel
theorem dX7_addToken_24 : decode cX7_addToken 24 = .ok (.getfield 106, 3) := by decide +kernel
theorem dX7_addToken_27 : decode cX7_addToken 27 = .ok (.iload_n 1, 1) := by decide +kernel
theorem dX7_addToken_28 : decode cX7_addToken 28 = .ok (.iastore, 1) := by decide +kernel
theorem dX7_addToken_29 : decode cX7_addToken 29 = .ok (.aload_n 0, 1) := by decide +kernel
theorem dX7_addToken_30 : decode cX7_addToken 30 = .ok (.getfield 19, 3) := by decide +kernel
theorem dX7_addToken_33 : decode cX7_addToken 33 = .ok (.aload_n 0, 1) := by decide +kernel
theorem dX7_addToken_34 : decode cX7_addToken 34 = .ok (.getfield 106, 3) := by decide +kernel
theorem dX7_addToken_37 : decode cX7_addToken 37 = .ok (.iload_n 2, 1) := by decide +kernel
theorem dX7_addToken_38 : decode cX7_addToken 38 = .ok (.iastore, 1) := by decide +kernel
theorem dX7_addToken_39 : decode cX7_addToken 39 = .ok (.aload_n 0, 1) := by decide +kernel
theorem dX7_addToken_40 : decode cX7_addToken 40 = .ok (.getfield 22, 3) := by decide +kernel
theorem dX7_addToken_43 : decode cX7_addToken 43 = .ok (.aload_n 0, 1) := by decide +kernel
theorem dX7_addToken_44 : decode cX7_addToken 44 = .ok (.getfield 106, 3) := by decide +kernel
theorem dX7_addToken_47 : decode cX7_addToken 47 = .ok (.iload_n 3, 1) := by decide +kernel
theorem dX7_addToken_48 : decode cX7_addToken 48 = .ok (.iastore, 1) := by decide +kernel
theorem dX7_addToken_49 : decode cX7_addToken 49 = .ok (.aload_n 0, 1) := by decide +kernel
theorem dX7_addToken_50 : decode cX7_addToken 50 = .ok (.getfield 25, 3) := by decide +kernel
theorem dX7_addToken_53 : decode cX7_addToken 53 = .ok (.aload_n 0, 1) := by decide +kernel
theorem dX7_addToken_54 : decode cX7_addToken 54 = .ok (.getfield 106, 3) := by decide +kernel
theorem dX7_addToken_57 : decode cX7_addToken 57 = .ok (.iload_n 1, 1) := by decide +kernel
theorem dX7_addToken_58 : decode cX7_addToken 58 = .ok (.iconst 1, 1) := by decide +kernel
theorem dX7_addToken_59 : decode cX7_addToken 59 = .ok (.if_icmp .ne 12, 3) := by decide +kernel
theorem dX7_addToken_62 : decode cX7_addToken 62 = .ok (.aload_n 0, 1) := by decide +kernel
theorem dX7_addToken_63 : decode cX7_addToken 63 = .ok (.iload_n 2, 1) := by decide +kernel
theorem dX7_addToken_64 : decode cX7_addToken 64 = .ok (.iload_n 3, 1) := by decide +kernel
theorem dX7_addToken_65 : decode cX7_addToken 65 = .ok (.invokevirtual 134, 3) := by decide +kernel
theorem dX7_addToken_68 : decode cX7_addToken 68 = .ok (.goto 18, 3) := by decide +kernel
theorem dX7_addToken_71 : decode cX7_addToken 71 = .ok (.iload_n 1, 1) := by decide +kernel
theorem dX7_addToken_72 : decode cX7_addToken 72 = .ok (.iconst 2, 1) := by decide +kernel
theorem dX7_addToken_73 : decode cX7_addToken 73 = .ok (.if_icmp .ne 12, 3) := by decide +kernel
theorem dX7_addToken_76 : decode cX7_addToken 76 = .ok (.aload_n 0, 1) := by decide +kernel
theorem dX7_addToken_77 : decode cX7_addToken 77 = .ok (.iload_n 2, 1) := by decide +kernel
theorem dX7_addToken_78 : decode cX7_addToken 78 = .ok (.iload_n 3, 1) := by decide +kernel
theorem dX7_addToken_79 : decode cX7_addToken 79 = .ok (.invokevirtual 137, 3) := by decide +kernel
theorem dX7_addToken_82 : decode cX7_addToken 82 = .ok (.goto 4, 3) := by decide +kernel
theorem dX7_addToken_85 : decode cX7_addToken 85 = .ok (.iconst (-1), 1) := by decide +kernel
theorem dX7_addToken_86 : decode cX7_addToken 86 = .ok (.iastore, 1) := by decide +kernel
theorem dX7_addToken_87 : decode cX7_addToken 87 = .ok (.aload_n 0, 1) := by decide +kernel
theorem dX7_addToken_88 : decode cX7_addToken 88 = .ok (.dup, 1) := by decide +kernel
theorem dX7_addToken_89 : decode cX7_addToken 89 = .ok (.getfield 106, 3) := by decide +kernel
theorem dX7_addToken_92 : decode cX7_addToken 92 = .ok (.iconst 1, 1) := by decide +kernel
theorem dX7_addToken_93 : decode cX7_addToken 93 = .ok (.iadd, 1) := by decide +kernel
theorem dX7_addToken_94 : decode cX7_addToken 94 = .ok (.putfield 106, 3) := by decide +kernel
theorem dX7_addToken_97 : decode cX7_addToken 97 = .ok (.return_, 1) := by decide +kernel
set_option maxRecDepth 20000 in
theorem ggX7_numberAt_X7_byteAt : GoodIn wsX7_numberAt wsX7_byteAt := goodIn_r _ [6, 7, 8, 9, 10, 11, 12, 13, 14, 15, 16, 17, 18, 19, 20, 21, 22, 23] (by decide +kernel) (by decide +kernel)
set_option maxRecDepth 20000 in
theorem gX7_numberAt_X7_byteAt : GoodIn wsX7_numberAt (wsV RX7 109 RX7 yX7_byteAt wsX7_byteAt) := goodIn_app (goodIn_of _ (by decide +kernel)) ggX7_numberAt_X7_byteAt
theorem dX7_numberAt_0 : decode cX7_numberAt 0 = .ok (.iconst 0, 1) := by decide +kernel
theorem dX7_numberAt_1 : decode cX7_numberAt 1 = .ok (.istore_n 3, 1) := by decide +kernel
theorem dX7_numberAt_2 : decode cX7_numberAt 2 = .ok (.iload_n 1, 1) := by decide +kernel
theorem dX7_numberAt_3 : decode cX7_numberAt 3 = .ok (.istore 4, 2) := by decide +kernel
theorem dX7_numberAt_5 : decode cX7_numberAt 5 = .ok (.iload 4, 2) := by decide +kernel
theorem dX7_numberAt_7 : decode cX7_numberAt 7 = .ok (.iload_n 2, 1) := by decide +kernel
theorem dX7_numberAt_8 : decode cX7_numberAt 8 = .ok (.if_icmp .ge 30, 3) := by decide +kernel
theorem dX7_numberAt_11 : decode cX7_numberAt 11 = .ok (.iload_n 3, 1) := by decide +kernel
theorem dX7_numberAt_12 : decode cX7_numberAt 12 = .ok (.ldc 140, 2) := by decide +kernel
theorem dX7_numberAt_14 : decode cX7_numberAt 14 = .ok (.if_icmp .gt 24, 3) := by decide +kernel
theorem dX7_numberAt_17 : decode cX7_numberAt 17 = .ok (.iload_n 3, 1) := by decide +kernel
theorem dX7_numberAt_18 : decode cX7_numberAt 18 = .ok (.bipush 10, 2) := by decide +kernel
theorem dX7_numberAt_20 : decode cX7_numberAt 20 = .ok (.imul, 1) := by decide +kernel
theorem dX7_numberAt_21 : decode cX7_numberAt 21 = .ok (.aload_n 0, 1) := by decide +kernel
theorem dX7_numberAt_22 : decode cX7_numberAt 22 = .ok (.iload 4, 2) := by decide +kernel
theorem dX7_numberAt_24 : decode cX7_numberAt 24 = .ok (.invokevirtual 109, 3) := by decide +kernel
theorem dX7_numberAt_27 : decode cX7_numberAt 27 = .ok (.iadd, 1) := by decide +kernel
theorem dX7_numberAt_28 : decode cX7_numberAt 28 = .ok (.bipush 48, 2) := by decide +kernel
theorem dX7_numberAt_30 : decode cX7_numberAt 30 = .ok (.isub, 1) := by decide +kernel
theorem dX7_numberAt_31 : decode cX7_numberAt 31 = .ok (.istore_n 3, 1) := by decide +kernel
theorem dX7_numberAt_32 : decode cX7_numberAt 32 = .ok (.iinc 4 1, 3) := by decide +kernel
theorem dX7_numberAt_35 : decode cX7_numberAt 35 = .ok (.goto (-30), 3) := by decide +kernel
theorem dX7_numberAt_38 : decode cX7_numberAt 38 = .ok (.iload_n 3, 1) := by decide +kernel
theorem dX7_numberAt_39 : decode cX7_numberAt 39 = .ok (.ireturn, 1) := by decide +kernel
set_option maxRecDepth 20000 in
theorem ggX7_wordAt_J0_length_8abf5 : GoodIn wsX7_wordAt wsJ0_length_8abf5 := goodIn_r _ [5, 6, 7, 8, 9, 4, 10, 11, 12] (by decide +kernel) (by decide +kernel)
set_option maxRecDepth 20000 in
theorem gX7_wordAt_J0_length_8abf5 : GoodIn wsX7_wordAt (wsV RX7 143 RJ0 yJ0_length_8abf5 wsJ0_length_8abf5) := goodIn_app (goodIn_of _ (by decide +kernel)) ggX7_wordAt_J0_length_8abf5
set_option maxRecDepth 20000 in
theorem ggX7_wordAt_J0_charAt_5068e : GoodIn wsX7_wordAt wsJ0_charAt_5068e := goodIn_r _ [16, 6, 17, 18, 19, 4, 20, 11, 12, 21, 22, 23, 24, 25, 26, 27, 28, 29, 30, 31, 32, 33, 34, 35, 36, 37, 38, 39, 40, 41, 42, 43, 44, 45, 46, 47, 48, 49] (by decide +kernel) (by decide +kernel)
set_option maxRecDepth 20000 in
theorem gX7_wordAt_J0_charAt_5068e : GoodIn wsX7_wordAt (wsV RX7 146 RJ0 yJ0_charAt_5068e wsJ0_charAt_5068e) := goodIn_app (goodIn_of _ (by decide +kernel)) ggX7_wordAt_J0_charAt_5068e
set_option maxRecDepth 20000 in
theorem ggX7_wordAt_X7_isWordAt : GoodIn wsX7_wordAt wsX7_isWordAt := goodIn_r _ [54, 1, 2, 3, 4, 5, 6, 7, 8, 9, 10, 11, 12, 13, 14, 15, 16, 17, 18, 19, 20, 21, 22, 23, 24, 25, 26, 27, 28, 29, 30, 31, 32, 33, 34, 35, 36, 37, 38, 39, 40, 41, 42, 43, 44, 45, 46, 47, 48, 49, 55, 56, 57, 53, 58, 59, 60, 61, 62, 63, 64, 65, 66, 67, 68, 69, 70, 71, 72, 73, 74, 75] (by decide +kernel) (by decide +kernel)
set_option maxRecDepth 20000 in
theorem gX7_wordAt_X7_isWordAt : GoodIn wsX7_wordAt (wsV RX7 150 RX7 yX7_isWordAt wsX7_isWordAt) := goodIn_app (goodIn_of _ (by decide +kernel)) ggX7_wordAt_X7_isWordAt
theorem dX7_wordAt_0 : decode cX7_wordAt 0 = .ok (.iconst 0, 1) := by decide +kernel
theorem dX7_wordAt_1 : decode cX7_wordAt 1 = .ok (.istore_n 3, 1) := by decide +kernel
theorem dX7_wordAt_2 : decode cX7_wordAt 2 = .ok (.iconst 0, 1) := by decide +kernel
theorem dX7_wordAt_3 : decode cX7_wordAt 3 = .ok (.istore 4, 2) := by decide +kernel
theorem dX7_wordAt_5 : decode cX7_wordAt 5 = .ok (.iconst 0, 1) := by decide +kernel
theorem dX7_wordAt_6 : decode cX7_wordAt 6 = .ok (.istore 5, 2) := by decide +kernel
theorem dX7_wordAt_8 : decode cX7_wordAt 8 = .ok (.iload 5, 2) := by decide +kernel
theorem dX7_wordAt_10 : decode cX7_wordAt 10 = .ok (.ldc 141, 2) := by decide +kernel
theorem dX7_wordAt_12 : decode cX7_wordAt 12 = .ok (.invokevirtual 143, 3) := by decide +kernel
theorem dX7_wordAt_15 : decode cX7_wordAt 15 = .ok (.if_icmp .gt 65, 3) := by decide +kernel
theorem dX7_wordAt_18 : decode cX7_wordAt 18 = .ok (.iload 5, 2) := by decide +kernel
theorem dX7_wordAt_20 : decode cX7_wordAt 20 = .ok (.ldc 141, 2) := by decide +kernel
theorem dX7_wordAt_22 : decode cX7_wordAt 22 = .ok (.invokevirtual 143, 3) := by decide +kernel
theorem dX7_wordAt_25 : decode cX7_wordAt 25 = .ok (.if_icmp .eq 15, 3) := by decide +kernel
theorem dX7_wordAt_28 : decode cX7_wordAt 28 = .ok (.ldc 141, 2) := by decide +kernel
theorem dX7_wordAt_30 : decode cX7_wordAt 30 = .ok (.iload 5, 2) := by decide +kernel
theorem dX7_wordAt_32 : decode cX7_wordAt 32 = .ok (.invokevirtual 146, 3) := by decide +kernel
theorem dX7_wordAt_35 : decode cX7_wordAt 35 = .ok (.bipush 32, 2) := by decide +kernel
theorem dX7_wordAt_37 : decode cX7_wordAt 37 = .ok (.if_icmp .ne 37, 3) := by decide +kernel
theorem dX7_wordAt_40 : decode cX7_wordAt 40 = .ok (.iload 5, 2) := by decide +kernel
theorem dX7_wordAt_42 : decode cX7_wordAt 42 = .ok (.iload 4, 2) := by decide +kernel
theorem dX7_wordAt_44 : decode cX7_wordAt 44 = .ok (.isub, 1) := by decide +kernel
theorem dX7_wordAt_45 : decode cX7_wordAt 45 = .ok (.iload_n 2, 1) := by decide +kernel
theorem dX7_wordAt_46 : decode cX7_wordAt 46 = .ok (.iload_n 1, 1) := by decide +kernel
theorem dX7_wordAt_47 : decode cX7_wordAt 47 = .ok (.isub, 1) := by decide +kernel
theorem dX7_wordAt_48 : decode cX7_wordAt 48 = .ok (.if_icmp .ne 17, 3) := by decide +kernel
theorem dX7_wordAt_51 : decode cX7_wordAt 51 = .ok (.aload_n 0, 1) := by decide +kernel
theorem dX7_wordAt_52 : decode cX7_wordAt 52 = .ok (.iload 4, 2) := by decide +kernel
theorem dX7_wordAt_54 : decode cX7_wordAt 54 = .ok (.iload 5, 2) := by decide +kernel
theorem dX7_wordAt_56 : decode cX7_wordAt 56 = .ok (.iload_n 1, 1) := by decide +kernel
theorem dX7_wordAt_57 : decode cX7_wordAt 57 = .ok (.invokevirtual 150, 3) := by decide +kernel
theorem dX7_wordAt_60 : decode cX7_wordAt 60 = .ok (.ifCond .eq 5, 3) := by decide +kernel
theorem dX7_wordAt_63 : decode cX7_wordAt 63 = .ok (.iload_n 3, 1) := by decide +kernel
theorem dX7_wordAt_64 : decode cX7_wordAt 64 = .ok (.ireturn, 1) := by decide +kernel
theorem dX7_wordAt_65 : decode cX7_wordAt 65 = .ok (.iinc 3 1, 3) := by decide +kernel
theorem dX7_wordAt_68 : decode cX7_wordAt 68 = .ok (.iload 5, 2) := by decide +kernel
theorem dX7_wordAt_70 : decode cX7_wordAt 70 = .ok (.iconst 1, 1) := by decide +kernel
theorem dX7_wordAt_71 : decode cX7_wordAt 71 = .ok (.iadd, 1) := by decide +kernel
theorem dX7_wordAt_72 : decode cX7_wordAt 72 = .ok (.istore 4, 2) := by decide +kernel
theorem dX7_wordAt_74 : decode cX7_wordAt 74 = .ok (.iinc 5 1, 3) := by decide +kernel
theorem dX7_wordAt_77 : decode cX7_wordAt 77 = .ok (.goto (-69), 3) := by decide +kernel
theorem dX7_wordAt_80 : decode cX7_wordAt 80 = .ok (.iconst (-1), 1) := by decide +kernel
theorem dX7_wordAt_81 : decode cX7_wordAt 81 = .ok (.ireturn, 1) := by decide +kernel
set_option maxRecDepth 20000 in
theorem ggX7_isWordAt_J0_length_8abf5 : GoodIn wsX7_isWordAt wsJ0_length_8abf5 := goodIn_r _ [5, 6, 7, 8, 9, 4, 10, 11, 12] (by decide +kernel) (by decide +kernel)
set_option maxRecDepth 20000 in
theorem gX7_isWordAt_J0_length_8abf5 : GoodIn wsX7_isWordAt (wsV RX7 143 RJ0 yJ0_length_8abf5 wsJ0_length_8abf5) := goodIn_app (goodIn_of _ (by decide +kernel)) ggX7_isWordAt_J0_length_8abf5
set_option maxRecDepth 20000 in
theorem ggX7_isWordAt_J0_charAt_5068e : GoodIn wsX7_isWordAt wsJ0_charAt_5068e := goodIn_r _ [16, 6, 17, 18, 19, 4, 20, 11, 12, 21, 22, 23, 24, 25, 26, 27, 28, 29, 30, 31, 32, 33, 34, 35, 36, 37, 38, 39, 40, 41, 42, 43, 44, 45, 46, 47, 48, 49] (by decide +kernel) (by decide +kernel)
set_option maxRecDepth 20000 in
theorem gX7_isWordAt_J0_charAt_5068e : GoodIn wsX7_isWordAt (wsV RX7 146 RJ0 yJ0_charAt_5068e wsJ0_charAt_5068e) := goodIn_app (goodIn_of _ (by decide +kernel)) ggX7_isWordAt_J0_charAt_5068e
set_option maxRecDepth 20000 in
theorem ggX7_isWordAt_X7_byteAt : GoodIn wsX7_isWordAt wsX7_byteAt := goodIn_r _ [54, 55, 56, 57, 58, 59, 60, 61, 62, 63, 64, 65, 66, 67, 68, 69, 70, 71] (by decide +kernel) (by decide +kernel)
set_option maxRecDepth 20000 in
theorem gX7_isWordAt_X7_byteAt : GoodIn wsX7_isWordAt (wsV RX7 109 RX7 yX7_byteAt wsX7_byteAt) := goodIn_app (goodIn_of _ (by decide +kernel)) ggX7_isWordAt_X7_byteAt
theorem dX7_isWordAt_0 : decode cX7_isWordAt 0 = .ok (.iload_n 1, 1) := by decide +kernel
theorem dX7_isWordAt_1 : decode cX7_isWordAt 1 = .ok (.istore 4, 2) := by decide +kernel
theorem dX7_isWordAt_3 : decode cX7_isWordAt 3 = .ok (.iload 4, 2) := by decide +kernel
theorem dX7_isWordAt_5 : decode cX7_isWordAt 5 = .ok (.ifCond .lt 47, 3) := by decide +kernel
theorem dX7_isWordAt_8 : decode cX7_isWordAt 8 = .ok (.iload 4, 2) := by decide +kernel
theorem dX7_isWordAt_10 : decode cX7_isWordAt 10 = .ok (.iload_n 2, 1) := by decide +kernel
theorem dX7_isWordAt_11 : decode cX7_isWordAt 11 = .ok (.if_icmp .ge 41, 3) := by decide +kernel
theorem dX7_isWordAt_14 : decode cX7_isWordAt 14 = .ok (.iload 4, 2) := by decide +kernel
theorem dX7_isWordAt_16 : decode cX7_isWordAt 16 = .ok (.ldc 141, 2) := by decide +kernel
theorem dX7_isWordAt_18 : decode cX7_isWordAt 18 = .ok (.invokevirtual 143, 3) := by decide +kernel
theorem dX7_isWordAt_21 : decode cX7_isWordAt 21 = .ok (.if_icmp .ge 31, 3) := by decide +kernel
theorem dX7_isWordAt_24 : decode cX7_isWordAt 24 = .ok (.ldc 141, 2) := by decide +kernel
theorem dX7_isWordAt_26 : decode cX7_isWordAt 26 = .ok (.iload 4, 2) := by decide +kernel
theorem dX7_isWordAt_28 : decode cX7_isWordAt 28 = .ok (.invokevirtual 146, 3) := by decide +kernel
theorem dX7_isWordAt_31 : decode cX7_isWordAt 31 = .ok (.aload_n 0, 1) := by decide +kernel
theorem dX7_isWordAt_32 : decode cX7_isWordAt 32 = .ok (.iload_n 3, 1) := by decide +kernel
theorem dX7_isWordAt_33 : decode cX7_isWordAt 33 = .ok (.iload 4, 2) := by decide +kernel
theorem dX7_isWordAt_35 : decode cX7_isWordAt 35 = .ok (.iadd, 1) := by decide +kernel
theorem dX7_isWordAt_36 : decode cX7_isWordAt 36 = .ok (.iload_n 1, 1) := by decide +kernel
theorem dX7_isWordAt_37 : decode cX7_isWordAt 37 = .ok (.isub, 1) := by decide +kernel
theorem dX7_isWordAt_38 : decode cX7_isWordAt 38 = .ok (.invokevirtual 109, 3) := by decide +kernel
theorem dX7_isWordAt_41 : decode cX7_isWordAt 41 = .ok (.if_icmp .eq 5, 3) := by decide +kernel
theorem dX7_isWordAt_44 : decode cX7_isWordAt 44 = .ok (.iconst 0, 1) := by decide +kernel
theorem dX7_isWordAt_45 : decode cX7_isWordAt 45 = .ok (.ireturn, 1) := by decide +kernel
theorem dX7_isWordAt_46 : decode cX7_isWordAt 46 = .ok (.iinc 4 1, 3) := by decide +kernel
theorem dX7_isWordAt_49 : decode cX7_isWordAt 49 = .ok (.goto (-46), 3) := by decide +kernel
theorem dX7_isWordAt_52 : decode cX7_isWordAt 52 = .ok (.iconst 1, 1) := by decide +kernel
theorem dX7_isWordAt_53 : decode cX7_isWordAt 53 = .ok (.ireturn, 1) := by decide +kernel
theorem dX7_kind_0 : decode cX7_kind 0 = .ok (.aload_n 0, 1) := by decide +kernel
theorem dX7_kind_1 : decode cX7_kind 1 = .ok (.getfield 53, 3) := by decide +kernel
theorem dX7_kind_4 : decode cX7_kind 4 = .ok (.ifCond .lt 38, 3) := by decide +kernel
theorem dX7_kind_7 : decode cX7_kind 7 = .ok (.aload_n 0, 1) := by decide +kernel
theorem dX7_kind_8 : decode cX7_kind 8 = .ok (.getfield 53, 3) := by decide +kernel
theorem dX7_kind_11 : decode cX7_kind 11 = .ok (.aload_n 0, 1) := by decide +kernel
theorem dX7_kind_12 : decode cX7_kind 12 = .ok (.getfield 106, 3) := by decide +kernel
theorem dX7_kind_15 : decode cX7_kind 15 = .ok (.if_icmp .ge 27, 3) := by decide +kernel
theorem dX7_kind_18 : decode cX7_kind 18 = .ok (.aload_n 0, 1) := by decide +kernel
theorem dX7_kind_19 : decode cX7_kind 19 = .ok (.getfield 53, 3) := by decide +kernel
theorem dX7_kind_22 : decode cX7_kind 22 = .ok (.aload_n 0, 1) := by decide +kernel
theorem dX7_kind_23 : decode cX7_kind 23 = .ok (.getfield 15, 3) := by decide +kernel
theorem dX7_kind_26 : decode cX7_kind 26 = .ok (.arraylength, 1) := by decide +kernel
theorem dX7_kind_27 : decode cX7_kind 27 = .ok (.if_icmp .ge 15, 3) := by decide +kernel
theorem dX7_kind_30 : decode cX7_kind 30 = .ok (.aload_n 0, 1) := by decide +kernel
theorem dX7_kind_31 : decode cX7_kind 31 = .ok (.getfield 15, 3) := by decide +kernel
theorem dX7_kind_34 : decode cX7_kind 34 = .ok (.aload_n 0, 1) := by decide +kernel
theorem dX7_kind_35 : decode cX7_kind 35 = .ok (.getfield 53, 3) := by decide +kernel
theorem dX7_kind_38 : decode cX7_kind 38 = .ok (.iaload, 1) := by decide +kernel
theorem dX7_kind_39 : decode cX7_kind 39 = .ok (.goto 4, 3) := by decide +kernel
theorem dX7_kind_42 : decode cX7_kind 42 = .ok (.iconst 0, 1) := by decide +kernel
theorem dX7_kind_43 : decode cX7_kind 43 = .ok (.ireturn, 1) := by decide +kernel
set_option maxRecDepth 20000 in
theorem ggX7_word_X7_kind : GoodIn wsX7_word wsX7_kind := goodIn_r _ [7, 2, 8, 9, 10, 11, 12, 13, 14, 15, 16, 17, 18, 19, 20, 21, 22, 23, 24] (by decide +kernel) (by decide +kernel)
set_option maxRecDepth 20000 in
theorem gX7_word_X7_kind : GoodIn wsX7_word (wsV RX7 68 RX7 yX7_kind wsX7_kind) := goodIn_app (goodIn_of _ (by decide +kernel)) ggX7_word_X7_kind
theorem dX7_word_0 : decode cX7_word 0 = .ok (.aload_n 0, 1) := by decide +kernel
theorem dX7_word_1 : decode cX7_word 1 = .ok (.invokevirtual 68, 3) := by decide +kernel
theorem dX7_word_4 : decode cX7_word 4 = .ok (.iconst 1, 1) := by decide +kernel
theorem dX7_word_5 : decode cX7_word 5 = .ok (.if_icmp .ne 15, 3) := by decide +kernel
theorem dX7_word_8 : decode cX7_word 8 = .ok (.aload_n 0, 1) := by decide +kernel
theorem dX7_word_9 : decode cX7_word 9 = .ok (.getfield 25, 3) := by decide +kernel
theorem dX7_word_12 : decode cX7_word 12 = .ok (.aload_n 0, 1) := by decide +kernel
theorem dX7_word_13 : decode cX7_word 13 = .ok (.getfield 53, 3) := by decide +kernel
theorem dX7_word_16 : decode cX7_word 16 = .ok (.iaload, 1) := by decide +kernel
theorem dX7_word_17 : decode cX7_word 17 = .ok (.goto 4, 3) := by decide +kernel
theorem dX7_word_20 : decode cX7_word 20 = .ok (.iconst (-1), 1) := by decide +kernel
theorem dX7_word_21 : decode cX7_word 21 = .ok (.ireturn, 1) := by decide +kernel
theorem dX7_refuse_0 : decode cX7_refuse 0 = .ok (.aload_n 0, 1) := by decide +kernel
theorem dX7_refuse_1 : decode cX7_refuse 1 = .ok (.getfield 50, 3) := by decide +kernel
theorem dX7_refuse_4 : decode cX7_refuse 4 = .ok (.iconst (-1), 1) := by decide +kernel
theorem dX7_refuse_5 : decode cX7_refuse 5 = .ok (.if_icmp .ne 53, 3) := by decide +kernel
theorem dX7_refuse_8 : decode cX7_refuse 8 = .ok (.aload_n 0, 1) := by decide +kernel
theorem dX7_refuse_9 : decode cX7_refuse 9 = .ok (.aload_n 0, 1) := by decide +kernel
theorem dX7_refuse_10 : decode cX7_refuse 10 = .ok (.getfield 53, 3) := by decide +kernel
theorem dX7_refuse_13 : decode cX7_refuse 13 = .ok (.ifCond .lt 38, 3) := by decide +kernel
theorem dX7_refuse_16 : decode cX7_refuse 16 = .ok (.aload_n 0, 1) := by decide +kernel
theorem dX7_refuse_17 : decode cX7_refuse 17 = .ok (.getfield 53, 3) := by decide +kernel
theorem dX7_refuse_20 : decode cX7_refuse 20 = .ok (.aload_n 0, 1) := by decide +kernel
theorem dX7_refuse_21 : decode cX7_refuse 21 = .ok (.getfield 106, 3) := by decide +kernel
theorem dX7_refuse_24 : decode cX7_refuse 24 = .ok (.if_icmp .ge 27, 3) := by decide +kernel
theorem dX7_refuse_27 : decode cX7_refuse 27 = .ok (.aload_n 0, 1) := by decide +kernel
theorem dX7_refuse_28 : decode cX7_refuse 28 = .ok (.getfield 53, 3) := by decide +kernel
theorem dX7_refuse_31 : decode cX7_refuse 31 = .ok (.aload_n 0, 1) := by decide +kernel
theorem dX7_refuse_32 : decode cX7_refuse 32 = .ok (.getfield 19, 3) := by decide +kernel
theorem dX7_refuse_35 : decode cX7_refuse 35 = .ok (.arraylength, 1) := by decide +kernel
theorem dX7_refuse_36 : decode cX7_refuse 36 = .ok (.if_icmp .ge 15, 3) := by decide +kernel
theorem dX7_refuse_39 : decode cX7_refuse 39 = .ok (.aload_n 0, 1) := by decide +kernel
theorem dX7_refuse_40 : decode cX7_refuse 40 = .ok (.getfield 19, 3) := by decide +kernel
theorem dX7_refuse_43 : decode cX7_refuse 43 = .ok (.aload_n 0, 1) := by decide +kernel
theorem dX7_refuse_44 : decode cX7_refuse 44 = .ok (.getfield 53, 3) := by decide +kernel
theorem dX7_refuse_47 : decode cX7_refuse 47 = .ok (.iaload, 1) := by decide +kernel
theorem dX7_refuse_48 : decode cX7_refuse 48 = .ok (.goto 7, 3) := by decide +kernel
theorem dX7_refuse_51 : decode cX7_refuse 51 = .ok (.aload_n 0, 1) := by decide +kernel
theorem dX7_refuse_52 : decode cX7_refuse 52 = .ok (.getfield 43, 3) := by decide +kernel
theorem dX7_refuse_55 : decode cX7_refuse 55 = .ok (.putfield 50, 3) := by decide +kernel
theorem dX7_refuse_58 : decode cX7_refuse 58 = .ok (.return_, 1) := by decide +kernel
theorem dX7_advance_0 : decode cX7_advance 0 = .ok (.aload_n 0, 1) := by decide +kernel
theorem dX7_advance_1 : decode cX7_advance 1 = .ok (.getfield 50, 3) := by decide +kernel
theorem dX7_advance_4 : decode cX7_advance 4 = .ok (.iconst (-1), 1) := by decide +kernel
theorem dX7_advance_5 : decode cX7_advance 5 = .ok (.if_icmp .ne 13, 3) := by decide +kernel
theorem dX7_advance_8 : decode cX7_advance 8 = .ok (.aload_n 0, 1) := by decide +kernel
theorem dX7_advance_9 : decode cX7_advance 9 = .ok (.dup, 1) := by decide +kernel
theorem dX7_advance_10 : decode cX7_advance 10 = .ok (.getfield 53, 3) := by decide +kernel
theorem dX7_advance_13 : decode cX7_advance 13 = .ok (.iconst 1, 1) := by decide +kernel
theorem dX7_advance_14 : decode cX7_advance 14 = .ok (.iadd, 1) := by decide +kernel
theorem dX7_advance_15 : decode cX7_advance 15 = .ok (.putfield 53, 3) := by decide +kernel
theorem dX7_advance_18 : decode cX7_advance 18 = .ok (.return_, 1) := by decide +kernel
set_option maxRecDepth 20000 in
theorem ggX7_expect_X7_kind : GoodIn wsX7_expect wsX7_kind := goodIn_r _ [5, 6, 7, 8, 20, 21, 22, 23, 24, 25, 26, 27, 28, 29, 30, 31, 32, 33, 34] (by decide +kernel) (by decide +kernel)
set_option maxRecDepth 20000 in
theorem gX7_expect_X7_kind : GoodIn wsX7_expect (wsV RX7 68 RX7 yX7_kind wsX7_kind) := goodIn_app (goodIn_of _ (by decide +kernel)) ggX7_expect_X7_kind
set_option maxRecDepth 20000 in
theorem ggX7_expect_X7_refuse : GoodIn wsX7_expect wsX7_refuse := goodIn_r _ [12, 13, 6, 7, 14, 15, 20, 21, 22, 23, 24, 25, 26, 27, 28, 29, 30, 31, 32, 33, 34] (by decide +kernel) (by decide +kernel)
set_option maxRecDepth 20000 in
theorem gX7_expect_X7_refuse : GoodIn wsX7_expect (wsV RX7 154 RX7 yX7_refuse wsX7_refuse) := goodIn_app (goodIn_of _ (by decide +kernel)) ggX7_expect_X7_refuse
set_option maxRecDepth 20000 in
theorem ggX7_expect_X7_advance : GoodIn wsX7_expect wsX7_advance := goodIn_r _ [19, 13, 6, 20, 21, 22, 23, 24, 25, 26, 27, 28, 29, 30, 31, 32, 33, 34] (by decide +kernel) (by decide +kernel)
set_option maxRecDepth 20000 in
theorem gX7_expect_X7_advance : GoodIn wsX7_expect (wsV RX7 157 RX7 yX7_advance wsX7_advance) := goodIn_app (goodIn_of _ (by decide +kernel)) ggX7_expect_X7_advance
theorem dX7_expect_0 : decode cX7_expect 0 = .ok (.aload_n 0, 1) := by decide +kernel
theorem dX7_expect_1 : decode cX7_expect 1 = .ok (.invokevirtual 68, 3) := by decide +kernel
theorem dX7_expect_4 : decode cX7_expect 4 = .ok (.iload_n 1, 1) := by decide +kernel
theorem dX7_expect_5 : decode cX7_expect 5 = .ok (.if_icmp .eq 7, 3) := by decide +kernel
theorem dX7_expect_8 : decode cX7_expect 8 = .ok (.aload_n 0, 1) := by decide +kernel
theorem dX7_expect_9 : decode cX7_expect 9 = .ok (.invokevirtual 154, 3) := by decide +kernel
theorem dX7_expect_12 : decode cX7_expect 12 = .ok (.aload_n 0, 1) := by decide +kernel
theorem dX7_expect_13 : decode cX7_expect 13 = .ok (.invokevirtual 157, 3) := by decide +kernel
theorem dX7_expect_16 : decode cX7_expect 16 = .ok (.return_, 1) := by decide +kernel
theorem dX7_emit_0 : decode cX7_emit 0 = .ok (.aload_n 0, 1) := by decide +kernel
theorem dX7_emit_1 : decode cX7_emit 1 = .ok (.getfield 50, 3) := by decide +kernel
theorem dX7_emit_4 : decode cX7_emit 4 = .ok (.iconst (-1), 1) := by decide +kernel
theorem dX7_emit_5 : decode cX7_emit 5 = .ok (.if_icmp .ne 42, 3) := by decide +kernel
theorem dX7_emit_8 : decode cX7_emit 8 = .ok (.aload_n 0, 1) := by decide +kernel
theorem dX7_emit_9 : decode cX7_emit 9 = .ok (.getfield 56, 3) := by decide +kernel
theorem dX7_emit_12 : decode cX7_emit 12 = .ok (.ifCond .lt 35, 3) := by decide +kernel
theorem dX7_emit_15 : decode cX7_emit 15 = .ok (.aload_n 0, 1) := by decide +kernel
theorem dX7_emit_16 : decode cX7_emit 16 = .ok (.getfield 56, 3) := by decide +kernel
theorem dX7_emit_19 : decode cX7_emit 19 = .ok (.aload_n 0, 1) := by decide +kernel
theorem dX7_emit_20 : decode cX7_emit 20 = .ok (.getfield 28, 3) := by decide +kernel
theorem dX7_emit_23 : decode cX7_emit 23 = .ok (.arraylength, 1) := by decide +kernel
theorem dX7_emit_24 : decode cX7_emit 24 = .ok (.if_icmp .ge 23, 3) := by decide +kernel
theorem dX7_emit_27 : decode cX7_emit 27 = .ok (.aload_n 0, 1) := by decide +kernel
theorem dX7_emit_28 : decode cX7_emit 28 = .ok (.getfield 28, 3) := by decide +kernel
theorem dX7_emit_31 : decode cX7_emit 31 = .ok (.aload_n 0, 1) := by decide +kernel
theorem dX7_emit_32 : decode cX7_emit 32 = .ok (.getfield 56, 3) := by decide +kernel
theorem dX7_emit_35 : decode cX7_emit 35 = .ok (.iload_n 1, 1) := by decide +kernel
theorem dX7_emit_36 : decode cX7_emit 36 = .ok (.iastore, 1) := by decide +kernel
theorem dX7_emit_37 : decode cX7_emit 37 = .ok (.aload_n 0, 1) := by decide +kernel
theorem dX7_emit_38 : decode cX7_emit 38 = .ok (.dup, 1) := by decide +kernel
theorem dX7_emit_39 : decode cX7_emit 39 = .ok (.getfield 56, 3) := by decide +kernel
theorem dX7_emit_42 : decode cX7_emit 42 = .ok (.iconst 1, 1) := by decide +kernel
theorem dX7_emit_43 : decode cX7_emit 43 = .ok (.iadd, 1) := by decide +kernel
theorem dX7_emit_44 : decode cX7_emit 44 = .ok (.putfield 56, 3) := by decide +kernel
theorem dX7_emit_47 : decode cX7_emit 47 = .ok (.return_, 1) := by decide +kernel
set_option maxRecDepth 20000 in
theorem ggX7_readClause_X7_word : GoodIn wsX7_readClause wsX7_word := goodIn_r _ [5, 6, 7, 8, 9, 10, 4, 11, 12, 13, 90, 91, 92, 93, 94, 95, 96, 97, 98, 99, 100, 101, 102, 103, 104] (by decide +kernel) (by decide +kernel)
set_option maxRecDepth 20000 in
theorem gX7_readClause_X7_word : GoodIn wsX7_readClause (wsV RX7 160 RX7 yX7_word wsX7_word) := goodIn_app (goodIn_of _ (by decide +kernel)) ggX7_readClause_X7_word
set_option maxRecDepth 20000 in
theorem ggX7_readClause_X7_advance : GoodIn wsX7_readClause wsX7_advance := goodIn_r _ [17, 18, 7, 90, 91, 92, 93, 94, 95, 96, 97, 98, 99, 100, 101, 102, 103, 104] (by decide +kernel) (by decide +kernel)
set_option maxRecDepth 20000 in
theorem gX7_readClause_X7_advance : GoodIn wsX7_readClause (wsV RX7 157 RX7 yX7_advance wsX7_advance) := goodIn_app (goodIn_of _ (by decide +kernel)) ggX7_readClause_X7_advance
set_option maxRecDepth 20000 in
theorem ggX7_readClause_X7_readSkip : GoodIn wsX7_readClause wsX7_readSkip := goodIn_r _ [22, 23, 24, 7, 25, 26, 8, 9, 10, 4, 11, 12, 13, 27, 28, 29, 30, 18, 31, 32, 33, 34, 35, 36, 14, 15, 16, 17, 90, 91, 92, 93, 94, 95, 96, 97, 98, 99, 100, 101, 102, 103, 104] (by decide +kernel) (by decide +kernel)
set_option maxRecDepth 20000 in
theorem gX7_readClause_X7_readSkip : GoodIn wsX7_readClause (wsV RX7 163 RX7 yX7_readSkip wsX7_readSkip) := goodIn_app (goodIn_of _ (by decide +kernel)) ggX7_readClause_X7_readSkip
set_option maxRecDepth 20000 in
theorem ggX7_readClause_X7_openSort : GoodIn wsX7_readClause wsX7_openSort := goodIn_r _ [40, 41, 42, 1, 2, 3, 4, 5, 6, 7, 8, 9, 10, 11, 12, 13, 14, 15, 16, 17, 18, 27, 28, 29, 30, 25, 31, 90, 91, 92, 93, 94, 95, 96, 97, 98, 99, 100, 101, 102, 103, 104] (by decide +kernel) (by decide +kernel)
set_option maxRecDepth 20000 in
theorem gX7_readClause_X7_openSort : GoodIn wsX7_readClause (wsV RX7 166 RX7 yX7_openSort wsX7_openSort) := goodIn_app (goodIn_of _ (by decide +kernel)) ggX7_readClause_X7_openSort
set_option maxRecDepth 20000 in
theorem ggX7_readClause_X7_readChoice : GoodIn wsX7_readClause wsX7_readChoice := goodIn_r _ [46, 1, 2, 3, 4, 5, 6, 7, 8, 9, 10, 11, 12, 13, 47, 48, 49, 50, 18, 42, 51, 14, 15, 16, 17, 27, 28, 29, 30, 25, 31, 90, 91, 92, 93, 94, 95, 96, 97, 98, 99, 100, 101, 102, 103, 104] (by decide +kernel) (by decide +kernel)
set_option maxRecDepth 20000 in
theorem gX7_readClause_X7_readChoice : GoodIn wsX7_readClause (wsV RX7 169 RX7 yX7_readChoice wsX7_readChoice) := goodIn_app (goodIn_of _ (by decide +kernel)) ggX7_readClause_X7_readChoice
set_option maxRecDepth 20000 in
theorem ggX7_readClause_X7_readEither : GoodIn wsX7_readClause wsX7_readEither := goodIn_r _ [55, 31, 18, 56, 57, 58, 4, 1, 2, 3, 5, 6, 7, 8, 9, 10, 11, 12, 13, 14, 15, 16, 17, 47, 48, 49, 50, 42, 51, 59, 60, 61, 62, 63, 64, 65, 66, 67, 68, 69, 70, 71, 72, 73, 74, 75, 76, 27, 28, 29, 30, 25, 77, 78, 79, 80, 81, 82, 83, 52, 53, 54, 84, 90, 91, 92, 93, 94, 95, 96, 97, 98, 99, 100, 101, 102, 103, 104] (by decide +kernel) (by decide +kernel)
set_option maxRecDepth 20000 in
theorem gX7_readClause_X7_readEither : GoodIn wsX7_readClause (wsV RX7 173 RX7 yX7_readEither wsX7_readEither) := goodIn_app (goodIn_of _ (by decide +kernel)) ggX7_readClause_X7_readEither
set_option maxRecDepth 20000 in
theorem ggX7_readClause_X7_readSum : GoodIn wsX7_readClause wsX7_readSum := goodIn_r _ [67, 31, 18, 68, 69, 70, 4, 8, 9, 10, 11, 7, 12, 13, 14, 15, 16, 17, 47, 48, 49, 50, 42, 51, 71, 6, 72, 1, 2, 3, 5, 64, 65, 66, 73, 74, 75, 76, 27, 28, 29, 30, 25, 77, 78, 79, 80, 90, 91, 92, 93, 94, 95, 96, 97, 98, 99, 100, 101, 102, 103, 104] (by decide +kernel) (by decide +kernel)
set_option maxRecDepth 20000 in
theorem gX7_readClause_X7_readSum : GoodIn wsX7_readClause (wsV RX7 176 RX7 yX7_readSum wsX7_readSum) := goodIn_app (goodIn_of _ (by decide +kernel)) ggX7_readClause_X7_readSum
set_option maxRecDepth 20000 in
theorem ggX7_readClause_X7_closeSort : GoodIn wsX7_readClause wsX7_closeSort := goodIn_r _ [88, 89, 42, 90, 91, 92, 93, 94, 95, 96, 97, 98, 99, 100, 101, 102, 103, 104] (by decide +kernel) (by decide +kernel)
set_option maxRecDepth 20000 in
theorem gX7_readClause_X7_closeSort : GoodIn wsX7_readClause (wsV RX7 179 RX7 yX7_closeSort wsX7_closeSort) := goodIn_app (goodIn_of _ (by decide +kernel)) ggX7_readClause_X7_closeSort
set_option maxRecDepth 20000 in
theorem ggX7_readClause_X7_expect : GoodIn wsX7_readClause wsX7_expect := goodIn_r _ [76, 8, 9, 10, 4, 11, 7, 12, 13, 27, 28, 29, 30, 18, 25, 31, 14, 15, 16, 17, 90, 91, 92, 93, 94, 95, 96, 97, 98, 99, 100, 101, 102, 103, 104] (by decide +kernel) (by decide +kernel)
set_option maxRecDepth 20000 in
theorem gX7_readClause_X7_expect : GoodIn wsX7_readClause (wsV RX7 182 RX7 yX7_expect wsX7_expect) := goodIn_app (goodIn_of _ (by decide +kernel)) ggX7_readClause_X7_expect
theorem dX7_readClause_0 : decode cX7_readClause 0 = .ok (.aload_n 0, 1) := by decide +kernel
theorem dX7_readClause_1 : decode cX7_readClause 1 = .ok (.invokevirtual 160, 3) := by decide +kernel
theorem dX7_readClause_4 : decode cX7_readClause 4 = .ok (.ifCond .ne 14, 3) := by decide +kernel
theorem dX7_readClause_7 : decode cX7_readClause 7 = .ok (.aload_n 0, 1) := by decide +kernel
theorem dX7_readClause_8 : decode cX7_readClause 8 = .ok (.invokevirtual 157, 3) := by decide +kernel
theorem dX7_readClause_11 : decode cX7_readClause 11 = .ok (.aload_n 0, 1) := by decide +kernel
theorem dX7_readClause_12 : decode cX7_readClause 12 = .ok (.invokevirtual 163, 3) := by decide +kernel
theorem dX7_readClause_15 : decode cX7_readClause 15 = .ok (.goto 63, 3) := by decide +kernel
theorem dX7_readClause_18 : decode cX7_readClause 18 = .ok (.aload_n 0, 1) := by decide +kernel
theorem dX7_readClause_19 : decode cX7_readClause 19 = .ok (.invokevirtual 166, 3) := by decide +kernel
theorem dX7_readClause_22 : decode cX7_readClause 22 = .ok (.istore_n 1, 1) := by decide +kernel
theorem dX7_readClause_23 : decode cX7_readClause 23 = .ok (.iload_n 1, 1) := by decide +kernel
theorem dX7_readClause_24 : decode cX7_readClause 24 = .ok (.ifCond .ne 12, 3) := by decide +kernel
theorem dX7_readClause_27 : decode cX7_readClause 27 = .ok (.aload_n 0, 1) := by decide +kernel
theorem dX7_readClause_28 : decode cX7_readClause 28 = .ok (.bipush 21, 2) := by decide +kernel
theorem dX7_readClause_30 : decode cX7_readClause 30 = .ok (.invokevirtual 169, 3) := by decide +kernel
theorem dX7_readClause_33 : decode cX7_readClause 33 = .ok (.goto 40, 3) := by decide +kernel
theorem dX7_readClause_36 : decode cX7_readClause 36 = .ok (.iload_n 1, 1) := by decide +kernel
theorem dX7_readClause_37 : decode cX7_readClause 37 = .ok (.iconst 1, 1) := by decide +kernel
theorem dX7_readClause_38 : decode cX7_readClause 38 = .ok (.if_icmp .ne 12, 3) := by decide +kernel
theorem dX7_readClause_41 : decode cX7_readClause 41 = .ok (.aload_n 0, 1) := by decide +kernel
theorem dX7_readClause_42 : decode cX7_readClause 42 = .ok (.bipush 23, 2) := by decide +kernel
theorem dX7_readClause_44 : decode cX7_readClause 44 = .ok (.invokevirtual 169, 3) := by decide +kernel
theorem dX7_readClause_47 : decode cX7_readClause 47 = .ok (.goto 26, 3) := by decide +kernel
theorem dX7_readClause_50 : decode cX7_readClause 50 = .ok (.iload_n 1, 1) := by decide +kernel
theorem dX7_readClause_51 : decode cX7_readClause 51 = .ok (.iconst 2, 1) := by decide +kernel
theorem dX7_readClause_52 : decode cX7_readClause 52 = .ok (.if_icmp .eq 8, 3) := by decide +kernel
theorem dX7_readClause_55 : decode cX7_readClause 55 = .ok (.iload_n 1, 1) := by decide +kernel
theorem dX7_readClause_56 : decode cX7_readClause 56 = .ok (.iconst 3, 1) := by decide +kernel
theorem dX7_readClause_57 : decode cX7_readClause 57 = .ok (.if_icmp .ne 11, 3) := by decide +kernel
theorem dX7_readClause_60 : decode cX7_readClause 60 = .ok (.aload_n 0, 1) := by decide +kernel
theorem dX7_readClause_61 : decode cX7_readClause 61 = .ok (.iconst 0, 1) := by decide +kernel
theorem dX7_readClause_62 : decode cX7_readClause 62 = .ok (.invokevirtual 173, 3) := by decide +kernel
theorem dX7_readClause_65 : decode cX7_readClause 65 = .ok (.goto 8, 3) := by decide +kernel
theorem dX7_readClause_68 : decode cX7_readClause 68 = .ok (.aload_n 0, 1) := by decide +kernel
theorem dX7_readClause_69 : decode cX7_readClause 69 = .ok (.iconst 0, 1) := by decide +kernel
theorem dX7_readClause_70 : decode cX7_readClause 70 = .ok (.invokevirtual 176, 3) := by decide +kernel
theorem dX7_readClause_73 : decode cX7_readClause 73 = .ok (.aload_n 0, 1) := by decide +kernel
theorem dX7_readClause_74 : decode cX7_readClause 74 = .ok (.iload_n 1, 1) := by decide +kernel
theorem dX7_readClause_75 : decode cX7_readClause 75 = .ok (.invokevirtual 179, 3) := by decide +kernel
theorem dX7_readClause_78 : decode cX7_readClause 78 = .ok (.aload_n 0, 1) := by decide +kernel
theorem dX7_readClause_79 : decode cX7_readClause 79 = .ok (.bipush 59, 2) := by decide +kernel
theorem dX7_readClause_81 : decode cX7_readClause 81 = .ok (.invokevirtual 182, 3) := by decide +kernel
theorem dX7_readClause_84 : decode cX7_readClause 84 = .ok (.return_, 1) := by decide +kernel
set_option maxRecDepth 20000 in
theorem ggX7_readSkip_X7_kind : GoodIn wsX7_readSkip wsX7_kind := goodIn_r _ [10, 3, 11, 12, 28, 29, 30, 31, 32, 33, 34, 35, 36, 37, 38, 39, 40, 41, 42] (by decide +kernel) (by decide +kernel)
set_option maxRecDepth 20000 in
theorem gX7_readSkip_X7_kind : GoodIn wsX7_readSkip (wsV RX7 68 RX7 yX7_kind wsX7_kind) := goodIn_app (goodIn_of _ (by decide +kernel)) ggX7_readSkip_X7_kind
set_option maxRecDepth 20000 in
theorem ggX7_readSkip_X7_refuse : GoodIn wsX7_readSkip wsX7_refuse := goodIn_r _ [16, 17, 3, 11, 4, 18, 28, 29, 30, 31, 32, 33, 34, 35, 36, 37, 38, 39, 40, 41, 42] (by decide +kernel) (by decide +kernel)
set_option maxRecDepth 20000 in
theorem gX7_readSkip_X7_refuse : GoodIn wsX7_readSkip (wsV RX7 154 RX7 yX7_refuse wsX7_refuse) := goodIn_app (goodIn_of _ (by decide +kernel)) ggX7_readSkip_X7_refuse
set_option maxRecDepth 20000 in
theorem ggX7_readSkip_X7_byteAt : GoodIn wsX7_readSkip wsX7_byteAt := goodIn_r _ [22, 18, 23, 28, 29, 30, 31, 32, 33, 34, 35, 36, 37, 38, 39, 40, 41, 42] (by decide +kernel) (by decide +kernel)
set_option maxRecDepth 20000 in
theorem gX7_readSkip_X7_byteAt : GoodIn wsX7_readSkip (wsV RX7 109 RX7 yX7_byteAt wsX7_byteAt) := goodIn_app (goodIn_of _ (by decide +kernel)) ggX7_readSkip_X7_byteAt
set_option maxRecDepth 20000 in
theorem ggX7_readSkip_X7_advance : GoodIn wsX7_readSkip wsX7_advance := goodIn_r _ [27, 17, 3, 28, 29, 30, 31, 32, 33, 34, 35, 36, 37, 38, 39, 40, 41, 42] (by decide +kernel) (by decide +kernel)
set_option maxRecDepth 20000 in
theorem gX7_readSkip_X7_advance : GoodIn wsX7_readSkip (wsV RX7 157 RX7 yX7_advance wsX7_advance) := goodIn_app (goodIn_of _ (by decide +kernel)) ggX7_readSkip_X7_advance
theorem dX7_readSkip_0 : decode cX7_readSkip 0 = .ok (.aload_n 0, 1) := by decide +kernel
theorem dX7_readSkip_1 : decode cX7_readSkip 1 = .ok (.invokevirtual 68, 3) := by decide +kernel
theorem dX7_readSkip_4 : decode cX7_readSkip 4 = .ok (.iconst 1, 1) := by decide +kernel
theorem dX7_readSkip_5 : decode cX7_readSkip 5 = .ok (.if_icmp .ne 42, 3) := by decide +kernel
theorem dX7_readSkip_8 : decode cX7_readSkip 8 = .ok (.aload_n 0, 1) := by decide +kernel
theorem dX7_readSkip_9 : decode cX7_readSkip 9 = .ok (.getfield 59, 3) := by decide +kernel
theorem dX7_readSkip_12 : decode cX7_readSkip 12 = .ok (.ifCond .lt 35, 3) := by decide +kernel
theorem dX7_readSkip_15 : decode cX7_readSkip 15 = .ok (.aload_n 0, 1) := by decide +kernel
theorem dX7_readSkip_16 : decode cX7_readSkip 16 = .ok (.getfield 59, 3) := by decide +kernel
theorem dX7_readSkip_19 : decode cX7_readSkip 19 = .ok (.iconst 4, 1) := by decide +kernel
theorem dX7_readSkip_20 : decode cX7_readSkip 20 = .ok (.if_icmp .ge 27, 3) := by decide +kernel
theorem dX7_readSkip_23 : decode cX7_readSkip 23 = .ok (.aload_n 0, 1) := by decide +kernel
theorem dX7_readSkip_24 : decode cX7_readSkip 24 = .ok (.getfield 22, 3) := by decide +kernel
theorem dX7_readSkip_27 : decode cX7_readSkip 27 = .ok (.aload_n 0, 1) := by decide +kernel
theorem dX7_readSkip_28 : decode cX7_readSkip 28 = .ok (.getfield 53, 3) := by decide +kernel
theorem dX7_readSkip_31 : decode cX7_readSkip 31 = .ok (.iaload, 1) := by decide +kernel
theorem dX7_readSkip_32 : decode cX7_readSkip 32 = .ok (.aload_n 0, 1) := by decide +kernel
theorem dX7_readSkip_33 : decode cX7_readSkip 33 = .ok (.getfield 19, 3) := by decide +kernel
theorem dX7_readSkip_36 : decode cX7_readSkip 36 = .ok (.aload_n 0, 1) := by decide +kernel
theorem dX7_readSkip_37 : decode cX7_readSkip 37 = .ok (.getfield 53, 3) := by decide +kernel
theorem dX7_readSkip_40 : decode cX7_readSkip 40 = .ok (.iaload, 1) := by decide +kernel
theorem dX7_readSkip_41 : decode cX7_readSkip 41 = .ok (.isub, 1) := by decide +kernel
theorem dX7_readSkip_42 : decode cX7_readSkip 42 = .ok (.bipush 8, 2) := by decide +kernel
theorem dX7_readSkip_44 : decode cX7_readSkip 44 = .ok (.if_icmp .le 8, 3) := by decide +kernel
theorem dX7_readSkip_47 : decode cX7_readSkip 47 = .ok (.aload_n 0, 1) := by decide +kernel
theorem dX7_readSkip_48 : decode cX7_readSkip 48 = .ok (.invokevirtual 154, 3) := by decide +kernel
theorem dX7_readSkip_51 : decode cX7_readSkip 51 = .ok (.return_, 1) := by decide +kernel
theorem dX7_readSkip_52 : decode cX7_readSkip 52 = .ok (.lconst 0, 1) := by decide +kernel
theorem dX7_readSkip_53 : decode cX7_readSkip 53 = .ok (.lstore_n 1, 1) := by decide +kernel
theorem dX7_readSkip_54 : decode cX7_readSkip 54 = .ok (.aload_n 0, 1) := by decide +kernel
theorem dX7_readSkip_55 : decode cX7_readSkip 55 = .ok (.getfield 19, 3) := by decide +kernel
theorem dX7_readSkip_58 : decode cX7_readSkip 58 = .ok (.aload_n 0, 1) := by decide +kernel
theorem dX7_readSkip_59 : decode cX7_readSkip 59 = .ok (.getfield 53, 3) := by decide +kernel
theorem dX7_readSkip_62 : decode cX7_readSkip 62 = .ok (.iaload, 1) := by decide +kernel
theorem dX7_readSkip_63 : decode cX7_readSkip 63 = .ok (.istore_n 3, 1) := by decide +kernel
theorem dX7_readSkip_64 : decode cX7_readSkip 64 = .ok (.iload_n 3, 1) := by decide +kernel
theorem dX7_readSkip_65 : decode cX7_readSkip 65 = .ok (.aload_n 0, 1) := by decide +kernel
theorem dX7_readSkip_66 : decode cX7_readSkip 66 = .ok (.getfield 22, 3) := by decide +kernel
theorem dX7_readSkip_69 : decode cX7_readSkip 69 = .ok (.aload_n 0, 1) := by decide +kernel
theorem dX7_readSkip_70 : decode cX7_readSkip 70 = .ok (.getfield 53, 3) := by decide +kernel
theorem dX7_readSkip_73 : decode cX7_readSkip 73 = .ok (.iaload, 1) := by decide +kernel
theorem dX7_readSkip_74 : decode cX7_readSkip 74 = .ok (.if_icmp .ge 21, 3) := by decide +kernel
theorem dX7_readSkip_77 : decode cX7_readSkip 77 = .ok (.lload_n 1, 1) := by decide +kernel
theorem dX7_readSkip_78 : decode cX7_readSkip 78 = .ok (.bipush 8, 2) := by decide +kernel
theorem dX7_readSkip_80 : decode cX7_readSkip 80 = .ok (.lshl, 1) := by decide +kernel
theorem dX7_readSkip_81 : decode cX7_readSkip 81 = .ok (.aload_n 0, 1) := by decide +kernel
theorem dX7_readSkip_82 : decode cX7_readSkip 82 = .ok (.iload_n 3, 1) := by decide +kernel
theorem dX7_readSkip_83 : decode cX7_readSkip 83 = .ok (.invokevirtual 109, 3) := by decide +kernel
theorem dX7_readSkip_86 : decode cX7_readSkip 86 = .ok (.i2l, 1) := by decide +kernel
theorem dX7_readSkip_87 : decode cX7_readSkip 87 = .ok (.lor, 1) := by decide +kernel
theorem dX7_readSkip_88 : decode cX7_readSkip 88 = .ok (.lstore_n 1, 1) := by decide +kernel
theorem dX7_readSkip_89 : decode cX7_readSkip 89 = .ok (.iinc 3 1, 3) := by decide +kernel
theorem dX7_readSkip_92 : decode cX7_readSkip 92 = .ok (.goto (-28), 3) := by decide +kernel
theorem dX7_readSkip_95 : decode cX7_readSkip 95 = .ok (.aload_n 0, 1) := by decide +kernel
theorem dX7_readSkip_96 : decode cX7_readSkip 96 = .ok (.getfield 39, 3) := by decide +kernel
theorem dX7_readSkip_99 : decode cX7_readSkip 99 = .ok (.aload_n 0, 1) := by decide +kernel
theorem dX7_readSkip_100 : decode cX7_readSkip 100 = .ok (.getfield 59, 3) := by decide +kernel
theorem dX7_readSkip_103 : decode cX7_readSkip 103 = .ok (.lload_n 1, 1) := by decide +kernel
theorem dX7_readSkip_104 : decode cX7_readSkip 104 = .ok (.lastore, 1) := by decide +kernel
theorem dX7_readSkip_105 : decode cX7_readSkip 105 = .ok (.aload_n 0, 1) := by decide +kernel
theorem dX7_readSkip_106 : decode cX7_readSkip 106 = .ok (.dup, 1) := by decide +kernel
theorem dX7_readSkip_107 : decode cX7_readSkip 107 = .ok (.getfield 59, 3) := by decide +kernel
theorem dX7_readSkip_110 : decode cX7_readSkip 110 = .ok (.iconst 1, 1) := by decide +kernel
theorem dX7_readSkip_111 : decode cX7_readSkip 111 = .ok (.iadd, 1) := by decide +kernel
theorem dX7_readSkip_112 : decode cX7_readSkip 112 = .ok (.putfield 59, 3) := by decide +kernel
theorem dX7_readSkip_115 : decode cX7_readSkip 115 = .ok (.aload_n 0, 1) := by decide +kernel
theorem dX7_readSkip_116 : decode cX7_readSkip 116 = .ok (.invokevirtual 157, 3) := by decide +kernel
theorem dX7_readSkip_119 : decode cX7_readSkip 119 = .ok (.return_, 1) := by decide +kernel
set_option maxRecDepth 20000 in
theorem ggX7_openSort_X7_word : GoodIn wsX7_openSort wsX7_word := goodIn_r _ [7, 8, 9, 10, 11, 12, 6, 13, 14, 15, 27, 28, 29, 30, 31, 32, 33, 34, 35, 36, 37, 38, 39, 40, 41] (by decide +kernel) (by decide +kernel)
set_option maxRecDepth 20000 in
theorem gX7_openSort_X7_word : GoodIn wsX7_openSort (wsV RX7 160 RX7 yX7_word wsX7_word) := goodIn_app (goodIn_of _ (by decide +kernel)) ggX7_openSort_X7_word
set_option maxRecDepth 20000 in
theorem ggX7_openSort_X7_advance : GoodIn wsX7_openSort wsX7_advance := goodIn_r _ [19, 20, 9, 27, 28, 29, 30, 31, 32, 33, 34, 35, 36, 37, 38, 39, 40, 41] (by decide +kernel) (by decide +kernel)
set_option maxRecDepth 20000 in
theorem gX7_openSort_X7_advance : GoodIn wsX7_openSort (wsV RX7 157 RX7 yX7_advance wsX7_advance) := goodIn_app (goodIn_of _ (by decide +kernel)) ggX7_openSort_X7_advance
set_option maxRecDepth 20000 in
theorem ggX7_openSort_X7_refuse : GoodIn wsX7_openSort wsX7_refuse := goodIn_r _ [24, 20, 9, 14, 25, 26, 27, 28, 29, 30, 31, 32, 33, 34, 35, 36, 37, 38, 39, 40, 41] (by decide +kernel) (by decide +kernel)
set_option maxRecDepth 20000 in
theorem gX7_openSort_X7_refuse : GoodIn wsX7_openSort (wsV RX7 154 RX7 yX7_refuse wsX7_refuse) := goodIn_app (goodIn_of _ (by decide +kernel)) ggX7_openSort_X7_refuse
theorem dX7_openSort_0 : decode cX7_openSort 0 = .ok (.aload_n 0, 1) := by decide +kernel
theorem dX7_openSort_1 : decode cX7_openSort 1 = .ok (.invokevirtual 160, 3) := by decide +kernel
theorem dX7_openSort_4 : decode cX7_openSort 4 = .ok (.istore_n 1, 1) := by decide +kernel
theorem dX7_openSort_5 : decode cX7_openSort 5 = .ok (.iconst (-1), 1) := by decide +kernel
theorem dX7_openSort_6 : decode cX7_openSort 6 = .ok (.istore_n 2, 1) := by decide +kernel
theorem dX7_openSort_7 : decode cX7_openSort 7 = .ok (.iload_n 1, 1) := by decide +kernel
theorem dX7_openSort_8 : decode cX7_openSort 8 = .ok (.iconst 1, 1) := by decide +kernel
theorem dX7_openSort_9 : decode cX7_openSort 9 = .ok (.if_icmp .lt 17, 3) := by decide +kernel
theorem dX7_openSort_12 : decode cX7_openSort 12 = .ok (.iload_n 1, 1) := by decide +kernel
theorem dX7_openSort_13 : decode cX7_openSort 13 = .ok (.iconst 5, 1) := by decide +kernel
theorem dX7_openSort_14 : decode cX7_openSort 14 = .ok (.if_icmp .gt 12, 3) := by decide +kernel
theorem dX7_openSort_17 : decode cX7_openSort 17 = .ok (.iconst 0, 1) := by decide +kernel
theorem dX7_openSort_18 : decode cX7_openSort 18 = .ok (.iload_n 1, 1) := by decide +kernel
theorem dX7_openSort_19 : decode cX7_openSort 19 = .ok (.iadd, 1) := by decide +kernel
theorem dX7_openSort_20 : decode cX7_openSort 20 = .ok (.iconst 1, 1) := by decide +kernel
theorem dX7_openSort_21 : decode cX7_openSort 21 = .ok (.isub, 1) := by decide +kernel
theorem dX7_openSort_22 : decode cX7_openSort 22 = .ok (.istore_n 2, 1) := by decide +kernel
theorem dX7_openSort_23 : decode cX7_openSort 23 = .ok (.goto 51, 3) := by decide +kernel
theorem dX7_openSort_26 : decode cX7_openSort 26 = .ok (.iload_n 1, 1) := by decide +kernel
theorem dX7_openSort_27 : decode cX7_openSort 27 = .ok (.bipush 6, 2) := by decide +kernel
theorem dX7_openSort_29 : decode cX7_openSort 29 = .ok (.if_icmp .lt 45, 3) := by decide +kernel
theorem dX7_openSort_32 : decode cX7_openSort 32 = .ok (.iload_n 1, 1) := by decide +kernel
theorem dX7_openSort_33 : decode cX7_openSort 33 = .ok (.bipush 8, 2) := by decide +kernel
theorem dX7_openSort_35 : decode cX7_openSort 35 = .ok (.if_icmp .gt 39, 3) := by decide +kernel
theorem dX7_openSort_38 : decode cX7_openSort 38 = .ok (.aload_n 0, 1) := by decide +kernel
theorem dX7_openSort_39 : decode cX7_openSort 39 = .ok (.invokevirtual 157, 3) := by decide +kernel
theorem dX7_openSort_42 : decode cX7_openSort 42 = .ok (.aload_n 0, 1) := by decide +kernel
theorem dX7_openSort_43 : decode cX7_openSort 43 = .ok (.invokevirtual 160, 3) := by decide +kernel
theorem dX7_openSort_46 : decode cX7_openSort 46 = .ok (.bipush 9, 2) := by decide +kernel
theorem dX7_openSort_48 : decode cX7_openSort 48 = .ok (.isub, 1) := by decide +kernel
theorem dX7_openSort_49 : decode cX7_openSort 49 = .ok (.istore_n 3, 1) := by decide +kernel
theorem dX7_openSort_50 : decode cX7_openSort 50 = .ok (.iload_n 3, 1) := by decide +kernel
theorem dX7_openSort_51 : decode cX7_openSort 51 = .ok (.ifCond .lt 21, 3) := by decide +kernel
theorem dX7_openSort_54 : decode cX7_openSort 54 = .ok (.iload_n 3, 1) := by decide +kernel
theorem dX7_openSort_55 : decode cX7_openSort 55 = .ok (.iconst 2, 1) := by decide +kernel
theorem dX7_openSort_56 : decode cX7_openSort 56 = .ok (.if_icmp .gt 16, 3) := by decide +kernel
theorem dX7_openSort_59 : decode cX7_openSort 59 = .ok (.iconst 5, 1) := by decide +kernel
theorem dX7_openSort_60 : decode cX7_openSort 60 = .ok (.iconst 3, 1) := by decide +kernel
theorem dX7_openSort_61 : decode cX7_openSort 61 = .ok (.iload_n 1, 1) := by decide +kernel
theorem dX7_openSort_62 : decode cX7_openSort 62 = .ok (.bipush 6, 2) := by decide +kernel
theorem dX7_openSort_64 : decode cX7_openSort 64 = .ok (.isub, 1) := by decide +kernel
theorem dX7_openSort_65 : decode cX7_openSort 65 = .ok (.imul, 1) := by decide +kernel
theorem dX7_openSort_66 : decode cX7_openSort 66 = .ok (.iadd, 1) := by decide +kernel
theorem dX7_openSort_67 : decode cX7_openSort 67 = .ok (.iload_n 3, 1) := by decide +kernel
theorem dX7_openSort_68 : decode cX7_openSort 68 = .ok (.iadd, 1) := by decide +kernel
theorem dX7_openSort_69 : decode cX7_openSort 69 = .ok (.goto 4, 3) := by decide +kernel
theorem dX7_openSort_72 : decode cX7_openSort 72 = .ok (.iconst (-1), 1) := by decide +kernel
theorem dX7_openSort_73 : decode cX7_openSort 73 = .ok (.istore_n 2, 1) := by decide +kernel
theorem dX7_openSort_74 : decode cX7_openSort 74 = .ok (.iload_n 2, 1) := by decide +kernel
theorem dX7_openSort_75 : decode cX7_openSort 75 = .ok (.ifCond .lt 19, 3) := by decide +kernel
theorem dX7_openSort_78 : decode cX7_openSort 78 = .ok (.iload_n 2, 1) := by decide +kernel
theorem dX7_openSort_79 : decode cX7_openSort 79 = .ok (.bipush 14, 2) := by decide +kernel
theorem dX7_openSort_81 : decode cX7_openSort 81 = .ok (.if_icmp .ge 13, 3) := by decide +kernel
theorem dX7_openSort_84 : decode cX7_openSort 84 = .ok (.aload_n 0, 1) := by decide +kernel
theorem dX7_openSort_85 : decode cX7_openSort 85 = .ok (.getfield 33, 3) := by decide +kernel
theorem dX7_openSort_88 : decode cX7_openSort 88 = .ok (.iload_n 2, 1) := by decide +kernel
theorem dX7_openSort_89 : decode cX7_openSort 89 = .ok (.iaload, 1) := by decide +kernel
theorem dX7_openSort_90 : decode cX7_openSort 90 = .ok (.iconst (-1), 1) := by decide +kernel
theorem dX7_openSort_91 : decode cX7_openSort 91 = .ok (.if_icmp .eq 9, 3) := by decide +kernel
theorem dX7_openSort_94 : decode cX7_openSort 94 = .ok (.aload_n 0, 1) := by decide +kernel
theorem dX7_openSort_95 : decode cX7_openSort 95 = .ok (.invokevirtual 154, 3) := by decide +kernel
theorem dX7_openSort_98 : decode cX7_openSort 98 = .ok (.iconst (-1), 1) := by decide +kernel
theorem dX7_openSort_99 : decode cX7_openSort 99 = .ok (.ireturn, 1) := by decide +kernel
theorem dX7_openSort_100 : decode cX7_openSort 100 = .ok (.aload_n 0, 1) := by decide +kernel
theorem dX7_openSort_101 : decode cX7_openSort 101 = .ok (.getfield 33, 3) := by decide +kernel
theorem dX7_openSort_104 : decode cX7_openSort 104 = .ok (.iload_n 2, 1) := by decide +kernel
theorem dX7_openSort_105 : decode cX7_openSort 105 = .ok (.aload_n 0, 1) := by decide +kernel
theorem dX7_openSort_106 : decode cX7_openSort 106 = .ok (.getfield 56, 3) := by decide +kernel
theorem dX7_openSort_109 : decode cX7_openSort 109 = .ok (.iastore, 1) := by decide +kernel
theorem dX7_openSort_110 : decode cX7_openSort 110 = .ok (.aload_n 0, 1) := by decide +kernel
theorem dX7_openSort_111 : decode cX7_openSort 111 = .ok (.invokevirtual 157, 3) := by decide +kernel
theorem dX7_openSort_114 : decode cX7_openSort 114 = .ok (.iload_n 2, 1) := by decide +kernel
theorem dX7_openSort_115 : decode cX7_openSort 115 = .ok (.ireturn, 1) := by decide +kernel
theorem dX7_closeSort_0 : decode cX7_closeSort 0 = .ok (.iload_n 1, 1) := by decide +kernel
theorem dX7_closeSort_1 : decode cX7_closeSort 1 = .ok (.ifCond .lt 19, 3) := by decide +kernel
theorem dX7_closeSort_4 : decode cX7_closeSort 4 = .ok (.iload_n 1, 1) := by decide +kernel
theorem dX7_closeSort_5 : decode cX7_closeSort 5 = .ok (.bipush 14, 2) := by decide +kernel
theorem dX7_closeSort_7 : decode cX7_closeSort 7 = .ok (.if_icmp .ge 13, 3) := by decide +kernel
theorem dX7_closeSort_10 : decode cX7_closeSort 10 = .ok (.aload_n 0, 1) := by decide +kernel
theorem dX7_closeSort_11 : decode cX7_closeSort 11 = .ok (.getfield 36, 3) := by decide +kernel
theorem dX7_closeSort_14 : decode cX7_closeSort 14 = .ok (.iload_n 1, 1) := by decide +kernel
theorem dX7_closeSort_15 : decode cX7_closeSort 15 = .ok (.aload_n 0, 1) := by decide +kernel
theorem dX7_closeSort_16 : decode cX7_closeSort 16 = .ok (.getfield 56, 3) := by decide +kernel
theorem dX7_closeSort_19 : decode cX7_closeSort 19 = .ok (.iastore, 1) := by decide +kernel
theorem dX7_closeSort_20 : decode cX7_closeSort 20 = .ok (.return_, 1) := by decide +kernel
set_option maxRecDepth 20000 in
theorem ggX7_readChoice_X7_word : GoodIn wsX7_readChoice wsX7_word := goodIn_r _ [5, 6, 7, 8, 9, 10, 4, 11, 12, 13, 31, 32, 33, 34, 35, 36, 37, 38, 39, 40, 41, 42, 43, 44, 45] (by decide +kernel) (by decide +kernel)
set_option maxRecDepth 20000 in
theorem gX7_readChoice_X7_word : GoodIn wsX7_readChoice (wsV RX7 160 RX7 yX7_word wsX7_word) := goodIn_app (goodIn_of _ (by decide +kernel)) ggX7_readChoice_X7_word
set_option maxRecDepth 20000 in
theorem ggX7_readChoice_X7_emit : GoodIn wsX7_readChoice wsX7_emit := goodIn_r _ [17, 18, 19, 20, 31, 32, 33, 34, 35, 36, 37, 38, 39, 40, 41, 42, 43, 44, 45] (by decide +kernel) (by decide +kernel)
set_option maxRecDepth 20000 in
theorem gX7_readChoice_X7_emit : GoodIn wsX7_readChoice (wsV RX7 185 RX7 yX7_emit wsX7_emit) := goodIn_app (goodIn_of _ (by decide +kernel)) ggX7_readChoice_X7_emit
set_option maxRecDepth 20000 in
theorem ggX7_readChoice_X7_advance : GoodIn wsX7_readChoice wsX7_advance := goodIn_r _ [24, 18, 7, 31, 32, 33, 34, 35, 36, 37, 38, 39, 40, 41, 42, 43, 44, 45] (by decide +kernel) (by decide +kernel)
set_option maxRecDepth 20000 in
theorem gX7_readChoice_X7_advance : GoodIn wsX7_readChoice (wsV RX7 157 RX7 yX7_advance wsX7_advance) := goodIn_app (goodIn_of _ (by decide +kernel)) ggX7_readChoice_X7_advance
set_option maxRecDepth 20000 in
theorem ggX7_readChoice_X7_refuse : GoodIn wsX7_readChoice wsX7_refuse := goodIn_r _ [28, 18, 7, 12, 29, 30, 31, 32, 33, 34, 35, 36, 37, 38, 39, 40, 41, 42, 43, 44, 45] (by decide +kernel) (by decide +kernel)
set_option maxRecDepth 20000 in
theorem gX7_readChoice_X7_refuse : GoodIn wsX7_readChoice (wsV RX7 154 RX7 yX7_refuse wsX7_refuse) := goodIn_app (goodIn_of _ (by decide +kernel)) ggX7_readChoice_X7_refuse
theorem dX7_readChoice_0 : decode cX7_readChoice 0 = .ok (.aload_n 0, 1) := by decide +kernel
theorem dX7_readChoice_1 : decode cX7_readChoice 1 = .ok (.invokevirtual 160, 3) := by decide +kernel
theorem dX7_readChoice_4 : decode cX7_readChoice 4 = .ok (.iload_n 1, 1) := by decide +kernel
theorem dX7_readChoice_5 : decode cX7_readChoice 5 = .ok (.isub, 1) := by decide +kernel
theorem dX7_readChoice_6 : decode cX7_readChoice 6 = .ok (.istore_n 2, 1) := by decide +kernel
theorem dX7_readChoice_7 : decode cX7_readChoice 7 = .ok (.iload_n 2, 1) := by decide +kernel
theorem dX7_readChoice_8 : decode cX7_readChoice 8 = .ok (.ifCond .eq 8, 3) := by decide +kernel
theorem dX7_readChoice_11 : decode cX7_readChoice 11 = .ok (.iload_n 2, 1) := by decide +kernel
theorem dX7_readChoice_12 : decode cX7_readChoice 12 = .ok (.iconst 1, 1) := by decide +kernel
theorem dX7_readChoice_13 : decode cX7_readChoice 13 = .ok (.if_icmp .ne 15, 3) := by decide +kernel
theorem dX7_readChoice_16 : decode cX7_readChoice 16 = .ok (.aload_n 0, 1) := by decide +kernel
theorem dX7_readChoice_17 : decode cX7_readChoice 17 = .ok (.iload_n 2, 1) := by decide +kernel
theorem dX7_readChoice_18 : decode cX7_readChoice 18 = .ok (.invokevirtual 185, 3) := by decide +kernel
theorem dX7_readChoice_21 : decode cX7_readChoice 21 = .ok (.aload_n 0, 1) := by decide +kernel
theorem dX7_readChoice_22 : decode cX7_readChoice 22 = .ok (.invokevirtual 157, 3) := by decide +kernel
theorem dX7_readChoice_25 : decode cX7_readChoice 25 = .ok (.goto 7, 3) := by decide +kernel
theorem dX7_readChoice_28 : decode cX7_readChoice 28 = .ok (.aload_n 0, 1) := by decide +kernel
theorem dX7_readChoice_29 : decode cX7_readChoice 29 = .ok (.invokevirtual 154, 3) := by decide +kernel
theorem dX7_readChoice_32 : decode cX7_readChoice 32 = .ok (.return_, 1) := by decide +kernel
set_option maxRecDepth 20000 in
theorem ggX7_readEither_X7_readBoth : GoodIn wsX7_readEither wsX7_readBoth := goodIn_r _ [62, 1, 2, 56, 57, 58, 6, 7, 8, 9, 10, 11, 12, 13, 14, 15, 16, 17, 18, 19, 20, 21, 22, 23, 24, 25, 26, 27, 28, 29, 30, 31, 32, 33, 34, 35, 36, 37, 38, 39, 40, 41, 42, 43, 44, 45, 46, 47, 48, 49, 50, 51, 52, 53, 54, 55, 59, 60, 61, 0, 3, 4, 5, 63, 64, 65, 66, 67, 68, 69, 70, 71, 72, 73, 74, 75, 76, 77] (by decide +kernel) (by decide +kernel)
set_option maxRecDepth 20000 in
theorem gX7_readEither_X7_readBoth : GoodIn wsX7_readEither (wsV RX7 188 RX7 yX7_readBoth wsX7_readBoth) := goodIn_app (goodIn_of _ (by decide +kernel)) ggX7_readEither_X7_readBoth
set_option maxRecDepth 20000 in
theorem ggX7_readEither_X7_word : GoodIn wsX7_readEither wsX7_word := goodIn_r _ [10, 11, 12, 13, 14, 15, 6, 16, 17, 18, 63, 64, 65, 66, 67, 68, 69, 70, 71, 72, 73, 74, 75, 76, 77] (by decide +kernel) (by decide +kernel)
set_option maxRecDepth 20000 in
theorem gX7_readEither_X7_word : GoodIn wsX7_readEither (wsV RX7 160 RX7 yX7_word wsX7_word) := goodIn_app (goodIn_of _ (by decide +kernel)) ggX7_readEither_X7_word
set_option maxRecDepth 20000 in
theorem ggX7_readEither_X7_advance : GoodIn wsX7_readEither wsX7_advance := goodIn_r _ [22, 2, 12, 63, 64, 65, 66, 67, 68, 69, 70, 71, 72, 73, 74, 75, 76, 77] (by decide +kernel) (by decide +kernel)
set_option maxRecDepth 20000 in
theorem gX7_readEither_X7_advance : GoodIn wsX7_readEither (wsV RX7 157 RX7 yX7_advance wsX7_advance) := goodIn_app (goodIn_of _ (by decide +kernel)) ggX7_readEither_X7_advance
set_option maxRecDepth 20000 in
theorem ggX7_readEither_X7_emit : GoodIn wsX7_readEither wsX7_emit := goodIn_r _ [26, 2, 27, 28, 63, 64, 65, 66, 67, 68, 69, 70, 71, 72, 73, 74, 75, 76, 77] (by decide +kernel) (by decide +kernel)
set_option maxRecDepth 20000 in
theorem gX7_readEither_X7_emit : GoodIn wsX7_readEither (wsV RX7 185 RX7 yX7_emit wsX7_emit) := goodIn_app (goodIn_of _ (by decide +kernel)) ggX7_readEither_X7_emit
theorem dX7_readEither_0 : decode cX7_readEither 0 = .ok (.aload_n 0, 1) := by decide +kernel
theorem dX7_readEither_1 : decode cX7_readEither 1 = .ok (.iload_n 1, 1) := by decide +kernel
theorem dX7_readEither_2 : decode cX7_readEither 2 = .ok (.invokevirtual 188, 3) := by decide +kernel
theorem dX7_readEither_5 : decode cX7_readEither 5 = .ok (.iconst 0, 1) := by decide +kernel
theorem dX7_readEither_6 : decode cX7_readEither 6 = .ok (.istore_n 2, 1) := by decide +kernel
theorem dX7_readEither_7 : decode cX7_readEither 7 = .ok (.iload_n 2, 1) := by decide +kernel
theorem dX7_readEither_8 : decode cX7_readEither 8 = .ok (.aload_n 0, 1) := by decide +kernel
theorem dX7_readEither_9 : decode cX7_readEither 9 = .ok (.getfield 43, 3) := by decide +kernel
theorem dX7_readEither_12 : decode cX7_readEither 12 = .ok (.if_icmp .ge 41, 3) := by decide +kernel
theorem dX7_readEither_15 : decode cX7_readEither 15 = .ok (.aload_n 0, 1) := by decide +kernel
theorem dX7_readEither_16 : decode cX7_readEither 16 = .ok (.getfield 50, 3) := by decide +kernel
theorem dX7_readEither_19 : decode cX7_readEither 19 = .ok (.iconst (-1), 1) := by decide +kernel
theorem dX7_readEither_20 : decode cX7_readEither 20 = .ok (.if_icmp .ne 33, 3) := by decide +kernel
theorem dX7_readEither_23 : decode cX7_readEither 23 = .ok (.aload_n 0, 1) := by decide +kernel
theorem dX7_readEither_24 : decode cX7_readEither 24 = .ok (.invokevirtual 160, 3) := by decide +kernel
theorem dX7_readEither_27 : decode cX7_readEither 27 = .ok (.bipush 25, 2) := by decide +kernel
theorem dX7_readEither_29 : decode cX7_readEither 29 = .ok (.if_icmp .ne 24, 3) := by decide +kernel
theorem dX7_readEither_32 : decode cX7_readEither 32 = .ok (.aload_n 0, 1) := by decide +kernel
theorem dX7_readEither_33 : decode cX7_readEither 33 = .ok (.invokevirtual 157, 3) := by decide +kernel
theorem dX7_readEither_36 : decode cX7_readEither 36 = .ok (.aload_n 0, 1) := by decide +kernel
theorem dX7_readEither_37 : decode cX7_readEither 37 = .ok (.iload_n 1, 1) := by decide +kernel
theorem dX7_readEither_38 : decode cX7_readEither 38 = .ok (.invokevirtual 188, 3) := by decide +kernel
theorem dX7_readEither_41 : decode cX7_readEither 41 = .ok (.aload_n 0, 1) := by decide +kernel
theorem dX7_readEither_42 : decode cX7_readEither 42 = .ok (.bipush (-19), 2) := by decide +kernel
theorem dX7_readEither_44 : decode cX7_readEither 44 = .ok (.invokevirtual 185, 3) := by decide +kernel
theorem dX7_readEither_47 : decode cX7_readEither 47 = .ok (.iinc 2 1, 3) := by decide +kernel
theorem dX7_readEither_50 : decode cX7_readEither 50 = .ok (.goto (-43), 3) := by decide +kernel
theorem dX7_readEither_53 : decode cX7_readEither 53 = .ok (.return_, 1) := by decide +kernel
set_option maxRecDepth 20000 in
theorem ggX7_readBoth_X7_readBasic : GoodIn wsX7_readBoth wsX7_readBasic := goodIn_r _ [29, 2, 7, 8, 9, 6, 10, 11, 12, 13, 14, 15, 16, 17, 18, 30, 31, 32, 33, 34, 35, 36, 37, 1, 38, 39, 40, 19, 20, 21, 22, 23, 24, 25, 26, 27, 28, 41, 42, 43, 44, 45, 46, 47, 48, 49, 50, 51, 52, 53, 54, 55, 3, 4, 5, 56, 57, 58, 0, 59, 60, 61, 62, 63, 64, 65, 66, 67, 68, 69, 70, 71, 72, 73, 74, 75, 76, 77] (by decide +kernel) (by decide +kernel)
set_option maxRecDepth 20000 in
theorem gX7_readBoth_X7_readBasic : GoodIn wsX7_readBoth (wsV RX7 193 RX7 yX7_readBasic wsX7_readBasic) := goodIn_app (goodIn_of _ (by decide +kernel)) ggX7_readBoth_X7_readBasic
set_option maxRecDepth 20000 in
theorem ggX7_readBoth_X7_word : GoodIn wsX7_readBoth wsX7_word := goodIn_r _ [10, 11, 12, 13, 14, 15, 6, 16, 17, 18, 63, 64, 65, 66, 67, 68, 69, 70, 71, 72, 73, 74, 75, 76, 77] (by decide +kernel) (by decide +kernel)
set_option maxRecDepth 20000 in
theorem gX7_readBoth_X7_word : GoodIn wsX7_readBoth (wsV RX7 160 RX7 yX7_word wsX7_word) := goodIn_app (goodIn_of _ (by decide +kernel)) ggX7_readBoth_X7_word
set_option maxRecDepth 20000 in
theorem ggX7_readBoth_X7_advance : GoodIn wsX7_readBoth wsX7_advance := goodIn_r _ [22, 2, 12, 63, 64, 65, 66, 67, 68, 69, 70, 71, 72, 73, 74, 75, 76, 77] (by decide +kernel) (by decide +kernel)
set_option maxRecDepth 20000 in
theorem gX7_readBoth_X7_advance : GoodIn wsX7_readBoth (wsV RX7 157 RX7 yX7_advance wsX7_advance) := goodIn_app (goodIn_of _ (by decide +kernel)) ggX7_readBoth_X7_advance
set_option maxRecDepth 20000 in
theorem ggX7_readBoth_X7_emit : GoodIn wsX7_readBoth wsX7_emit := goodIn_r _ [26, 2, 27, 28, 63, 64, 65, 66, 67, 68, 69, 70, 71, 72, 73, 74, 75, 76, 77] (by decide +kernel) (by decide +kernel)
set_option maxRecDepth 20000 in
theorem gX7_readBoth_X7_emit : GoodIn wsX7_readBoth (wsV RX7 185 RX7 yX7_emit wsX7_emit) := goodIn_app (goodIn_of _ (by decide +kernel)) ggX7_readBoth_X7_emit
theorem dX7_readBoth_0 : decode cX7_readBoth 0 = .ok (.aload_n 0, 1) := by decide +kernel
theorem dX7_readBoth_1 : decode cX7_readBoth 1 = .ok (.iload_n 1, 1) := by decide +kernel
theorem dX7_readBoth_2 : decode cX7_readBoth 2 = .ok (.invokevirtual 193, 3) := by decide +kernel
theorem dX7_readBoth_5 : decode cX7_readBoth 5 = .ok (.iconst 0, 1) := by decide +kernel
theorem dX7_readBoth_6 : decode cX7_readBoth 6 = .ok (.istore_n 2, 1) := by decide +kernel
theorem dX7_readBoth_7 : decode cX7_readBoth 7 = .ok (.iload_n 2, 1) := by decide +kernel
theorem dX7_readBoth_8 : decode cX7_readBoth 8 = .ok (.aload_n 0, 1) := by decide +kernel
theorem dX7_readBoth_9 : decode cX7_readBoth 9 = .ok (.getfield 43, 3) := by decide +kernel
theorem dX7_readBoth_12 : decode cX7_readBoth 12 = .ok (.if_icmp .ge 41, 3) := by decide +kernel
theorem dX7_readBoth_15 : decode cX7_readBoth 15 = .ok (.aload_n 0, 1) := by decide +kernel
theorem dX7_readBoth_16 : decode cX7_readBoth 16 = .ok (.getfield 50, 3) := by decide +kernel
theorem dX7_readBoth_19 : decode cX7_readBoth 19 = .ok (.iconst (-1), 1) := by decide +kernel
theorem dX7_readBoth_20 : decode cX7_readBoth 20 = .ok (.if_icmp .ne 33, 3) := by decide +kernel
theorem dX7_readBoth_23 : decode cX7_readBoth 23 = .ok (.aload_n 0, 1) := by decide +kernel
theorem dX7_readBoth_24 : decode cX7_readBoth 24 = .ok (.invokevirtual 160, 3) := by decide +kernel
theorem dX7_readBoth_27 : decode cX7_readBoth 27 = .ok (.bipush 26, 2) := by decide +kernel
theorem dX7_readBoth_29 : decode cX7_readBoth 29 = .ok (.if_icmp .ne 24, 3) := by decide +kernel
theorem dX7_readBoth_32 : decode cX7_readBoth 32 = .ok (.aload_n 0, 1) := by decide +kernel
theorem dX7_readBoth_33 : decode cX7_readBoth 33 = .ok (.invokevirtual 157, 3) := by decide +kernel
theorem dX7_readBoth_36 : decode cX7_readBoth 36 = .ok (.aload_n 0, 1) := by decide +kernel
theorem dX7_readBoth_37 : decode cX7_readBoth 37 = .ok (.iload_n 1, 1) := by decide +kernel
theorem dX7_readBoth_38 : decode cX7_readBoth 38 = .ok (.invokevirtual 193, 3) := by decide +kernel
theorem dX7_readBoth_41 : decode cX7_readBoth 41 = .ok (.aload_n 0, 1) := by decide +kernel
theorem dX7_readBoth_42 : decode cX7_readBoth 42 = .ok (.bipush (-18), 2) := by decide +kernel
theorem dX7_readBoth_44 : decode cX7_readBoth 44 = .ok (.invokevirtual 185, 3) := by decide +kernel
theorem dX7_readBoth_47 : decode cX7_readBoth 47 = .ok (.iinc 2 1, 3) := by decide +kernel
theorem dX7_readBoth_50 : decode cX7_readBoth 50 = .ok (.goto (-43), 3) := by decide +kernel
theorem dX7_readBoth_53 : decode cX7_readBoth 53 = .ok (.return_, 1) := by decide +kernel
set_option maxRecDepth 20000 in
theorem ggX7_readBasic_X7_word : GoodIn wsX7_readBasic wsX7_word := goodIn_r _ [6, 7, 8, 9, 10, 11, 5, 12, 13, 14, 63, 64, 65, 66, 67, 68, 69, 70, 71, 72, 73, 74, 75, 76, 77] (by decide +kernel) (by decide +kernel)
set_option maxRecDepth 20000 in
theorem gX7_readBasic_X7_word : GoodIn wsX7_readBasic (wsV RX7 160 RX7 yX7_word wsX7_word) := goodIn_app (goodIn_of _ (by decide +kernel)) ggX7_readBasic_X7_word
set_option maxRecDepth 20000 in
theorem ggX7_readBasic_X7_kind : GoodIn wsX7_readBasic wsX7_kind := goodIn_r _ [12, 8, 13, 14, 63, 64, 65, 66, 67, 68, 69, 70, 71, 72, 73, 74, 75, 76, 77] (by decide +kernel) (by decide +kernel)
set_option maxRecDepth 20000 in
theorem gX7_readBasic_X7_kind : GoodIn wsX7_readBasic (wsV RX7 68 RX7 yX7_kind wsX7_kind) := goodIn_app (goodIn_of _ (by decide +kernel)) ggX7_readBasic_X7_kind
set_option maxRecDepth 20000 in
theorem ggX7_readBasic_X7_readComparison : GoodIn wsX7_readBasic wsX7_readComparison := goodIn_r _ [18, 19, 20, 21, 5, 22, 23, 1, 24, 25, 26, 9, 10, 11, 12, 8, 13, 14, 27, 28, 29, 30, 31, 32, 33, 34, 35, 36, 37, 7, 38, 2, 3, 4, 6, 39, 40, 41, 42, 43, 44, 45, 46, 47, 48, 49, 50, 51, 63, 64, 65, 66, 67, 68, 69, 70, 71, 72, 73, 74, 75, 76, 77] (by decide +kernel) (by decide +kernel)
set_option maxRecDepth 20000 in
theorem gX7_readBasic_X7_readComparison : GoodIn wsX7_readBasic (wsV RX7 196 RX7 yX7_readComparison wsX7_readComparison) := goodIn_app (goodIn_of _ (by decide +kernel)) ggX7_readBasic_X7_readComparison
set_option maxRecDepth 20000 in
theorem ggX7_readBasic_X7_refuse : GoodIn wsX7_readBasic wsX7_refuse := goodIn_r _ [46, 1, 8, 13, 47, 23, 63, 64, 65, 66, 67, 68, 69, 70, 71, 72, 73, 74, 75, 76, 77] (by decide +kernel) (by decide +kernel)
set_option maxRecDepth 20000 in
theorem gX7_readBasic_X7_refuse : GoodIn wsX7_readBasic (wsV RX7 154 RX7 yX7_refuse wsX7_refuse) := goodIn_app (goodIn_of _ (by decide +kernel)) ggX7_readBasic_X7_refuse
set_option maxRecDepth 20000 in
theorem ggX7_readBasic_X7_advance : GoodIn wsX7_readBasic wsX7_advance := goodIn_r _ [30, 1, 8, 63, 64, 65, 66, 67, 68, 69, 70, 71, 72, 73, 74, 75, 76, 77] (by decide +kernel) (by decide +kernel)
set_option maxRecDepth 20000 in
theorem gX7_readBasic_X7_advance : GoodIn wsX7_readBasic (wsV RX7 157 RX7 yX7_advance wsX7_advance) := goodIn_app (goodIn_of _ (by decide +kernel)) ggX7_readBasic_X7_advance
set_option maxRecDepth 20000 in
theorem ggX7_readBasic_X7_readBasic : GoodIn wsX7_readBasic wsX7_readBasic := goodIn_r _ [0, 1, 2, 3, 4, 5, 6, 7, 8, 9, 10, 11, 12, 13, 14, 15, 16, 17, 18, 19, 20, 21, 22, 23, 24, 25, 26, 27, 28, 29, 30, 31, 32, 33, 34, 35, 36, 37, 38, 39, 40, 41, 42, 43, 44, 45, 46, 47, 48, 49, 50, 51, 52, 53, 54, 55, 56, 57, 58, 59, 60, 61, 62, 63, 64, 65, 66, 67, 68, 69, 70, 71, 72, 73, 74, 75, 76, 77] (by decide +kernel) (by decide +kernel)
set_option maxRecDepth 20000 in
theorem gX7_readBasic_X7_readBasic : GoodIn wsX7_readBasic (wsV RX7 193 RX7 yX7_readBasic wsX7_readBasic) := goodIn_app (goodIn_of _ (by decide +kernel)) ggX7_readBasic_X7_readBasic
set_option maxRecDepth 20000 in
theorem ggX7_readBasic_X7_emit : GoodIn wsX7_readBasic wsX7_emit := goodIn_r _ [34, 1, 35, 36, 63, 64, 65, 66, 67, 68, 69, 70, 71, 72, 73, 74, 75, 76, 77] (by decide +kernel) (by decide +kernel)
set_option maxRecDepth 20000 in
theorem gX7_readBasic_X7_emit : GoodIn wsX7_readBasic (wsV RX7 185 RX7 yX7_emit wsX7_emit) := goodIn_app (goodIn_of _ (by decide +kernel)) ggX7_readBasic_X7_emit
set_option maxRecDepth 20000 in
theorem ggX7_readBasic_X7_readEither : GoodIn wsX7_readBasic wsX7_readEither := goodIn_r _ [59, 23, 1, 60, 61, 62, 5, 2, 3, 4, 6, 7, 8, 9, 10, 11, 12, 13, 14, 27, 28, 29, 30, 31, 32, 33, 34, 35, 36, 0, 15, 16, 17, 18, 19, 20, 21, 22, 24, 25, 26, 37, 38, 39, 40, 41, 42, 43, 44, 45, 46, 47, 48, 49, 50, 51, 52, 53, 54, 55, 56, 57, 58, 63, 64, 65, 66, 67, 68, 69, 70, 71, 72, 73, 74, 75, 76, 77] (by decide +kernel) (by decide +kernel)
set_option maxRecDepth 20000 in
theorem gX7_readBasic_X7_readEither : GoodIn wsX7_readBasic (wsV RX7 173 RX7 yX7_readEither wsX7_readEither) := goodIn_app (goodIn_of _ (by decide +kernel)) ggX7_readBasic_X7_readEither
set_option maxRecDepth 20000 in
theorem ggX7_readBasic_X7_expect : GoodIn wsX7_readBasic wsX7_expect := goodIn_r _ [42, 9, 10, 11, 5, 12, 8, 13, 14, 43, 44, 45, 46, 1, 47, 23, 27, 28, 29, 30, 63, 64, 65, 66, 67, 68, 69, 70, 71, 72, 73, 74, 75, 76, 77] (by decide +kernel) (by decide +kernel)
set_option maxRecDepth 20000 in
theorem gX7_readBasic_X7_expect : GoodIn wsX7_readBasic (wsV RX7 182 RX7 yX7_expect wsX7_expect) := goodIn_app (goodIn_of _ (by decide +kernel)) ggX7_readBasic_X7_expect
theorem dX7_readBasic_0 : decode cX7_readBasic 0 = .ok (.aload_n 0, 1) := by decide +kernel
theorem dX7_readBasic_1 : decode cX7_readBasic 1 = .ok (.invokevirtual 160, 3) := by decide +kernel
theorem dX7_readBasic_4 : decode cX7_readBasic 4 = .ok (.bipush 27, 2) := by decide +kernel
theorem dX7_readBasic_6 : decode cX7_readBasic 6 = .ok (.if_icmp .ne 7, 3) := by decide +kernel
theorem dX7_readBasic_9 : decode cX7_readBasic 9 = .ok (.iconst 1, 1) := by decide +kernel
theorem dX7_readBasic_10 : decode cX7_readBasic 10 = .ok (.goto 4, 3) := by decide +kernel
theorem dX7_readBasic_13 : decode cX7_readBasic 13 = .ok (.iconst 0, 1) := by decide +kernel
theorem dX7_readBasic_14 : decode cX7_readBasic 14 = .ok (.istore_n 2, 1) := by decide +kernel
theorem dX7_readBasic_15 : decode cX7_readBasic 15 = .ok (.iload_n 2, 1) := by decide +kernel
theorem dX7_readBasic_16 : decode cX7_readBasic 16 = .ok (.ifCond .ne 18, 3) := by decide +kernel
theorem dX7_readBasic_19 : decode cX7_readBasic 19 = .ok (.aload_n 0, 1) := by decide +kernel
theorem dX7_readBasic_20 : decode cX7_readBasic 20 = .ok (.invokevirtual 68, 3) := by decide +kernel
theorem dX7_readBasic_23 : decode cX7_readBasic 23 = .ok (.bipush 91, 2) := by decide +kernel
theorem dX7_readBasic_25 : decode cX7_readBasic 25 = .ok (.if_icmp .eq 9, 3) := by decide +kernel
theorem dX7_readBasic_28 : decode cX7_readBasic 28 = .ok (.aload_n 0, 1) := by decide +kernel
theorem dX7_readBasic_29 : decode cX7_readBasic 29 = .ok (.iload_n 1, 1) := by decide +kernel
theorem dX7_readBasic_30 : decode cX7_readBasic 30 = .ok (.invokevirtual 196, 3) := by decide +kernel
theorem dX7_readBasic_33 : decode cX7_readBasic 33 = .ok (.return_, 1) := by decide +kernel
theorem dX7_readBasic_34 : decode cX7_readBasic 34 = .ok (.aload_n 0, 1) := by decide +kernel
theorem dX7_readBasic_35 : decode cX7_readBasic 35 = .ok (.getfield 50, 3) := by decide +kernel
theorem dX7_readBasic_38 : decode cX7_readBasic 38 = .ok (.iconst (-1), 1) := by decide +kernel
theorem dX7_readBasic_39 : decode cX7_readBasic 39 = .ok (.if_icmp .ne 9, 3) := by decide +kernel
theorem dX7_readBasic_42 : decode cX7_readBasic 42 = .ok (.iload_n 1, 1) := by decide +kernel
theorem dX7_readBasic_43 : decode cX7_readBasic 43 = .ok (.bipush 8, 2) := by decide +kernel
theorem dX7_readBasic_45 : decode cX7_readBasic 45 = .ok (.if_icmp .lt 8, 3) := by decide +kernel
theorem dX7_readBasic_48 : decode cX7_readBasic 48 = .ok (.aload_n 0, 1) := by decide +kernel
theorem dX7_readBasic_49 : decode cX7_readBasic 49 = .ok (.invokevirtual 154, 3) := by decide +kernel
theorem dX7_readBasic_52 : decode cX7_readBasic 52 = .ok (.return_, 1) := by decide +kernel
theorem dX7_readBasic_53 : decode cX7_readBasic 53 = .ok (.aload_n 0, 1) := by decide +kernel
theorem dX7_readBasic_54 : decode cX7_readBasic 54 = .ok (.invokevirtual 157, 3) := by decide +kernel
theorem dX7_readBasic_57 : decode cX7_readBasic 57 = .ok (.iload_n 2, 1) := by decide +kernel
theorem dX7_readBasic_58 : decode cX7_readBasic 58 = .ok (.ifCond .eq 19, 3) := by decide +kernel
theorem dX7_readBasic_61 : decode cX7_readBasic 61 = .ok (.aload_n 0, 1) := by decide +kernel
theorem dX7_readBasic_62 : decode cX7_readBasic 62 = .ok (.iload_n 1, 1) := by decide +kernel
theorem dX7_readBasic_63 : decode cX7_readBasic 63 = .ok (.iconst 1, 1) := by decide +kernel
theorem dX7_readBasic_64 : decode cX7_readBasic 64 = .ok (.iadd, 1) := by decide +kernel
theorem dX7_readBasic_65 : decode cX7_readBasic 65 = .ok (.invokevirtual 193, 3) := by decide +kernel
theorem dX7_readBasic_68 : decode cX7_readBasic 68 = .ok (.aload_n 0, 1) := by decide +kernel
theorem dX7_readBasic_69 : decode cX7_readBasic 69 = .ok (.bipush (-20), 2) := by decide +kernel
theorem dX7_readBasic_71 : decode cX7_readBasic 71 = .ok (.invokevirtual 185, 3) := by decide +kernel
theorem dX7_readBasic_74 : decode cX7_readBasic 74 = .ok (.goto 16, 3) := by decide +kernel
theorem dX7_readBasic_77 : decode cX7_readBasic 77 = .ok (.aload_n 0, 1) := by decide +kernel
theorem dX7_readBasic_78 : decode cX7_readBasic 78 = .ok (.iload_n 1, 1) := by decide +kernel
theorem dX7_readBasic_79 : decode cX7_readBasic 79 = .ok (.iconst 1, 1) := by decide +kernel
theorem dX7_readBasic_80 : decode cX7_readBasic 80 = .ok (.iadd, 1) := by decide +kernel
theorem dX7_readBasic_81 : decode cX7_readBasic 81 = .ok (.invokevirtual 173, 3) := by decide +kernel
theorem dX7_readBasic_84 : decode cX7_readBasic 84 = .ok (.aload_n 0, 1) := by decide +kernel
theorem dX7_readBasic_85 : decode cX7_readBasic 85 = .ok (.bipush 93, 2) := by decide +kernel
theorem dX7_readBasic_87 : decode cX7_readBasic 87 = .ok (.invokevirtual 182, 3) := by decide +kernel
theorem dX7_readBasic_90 : decode cX7_readBasic 90 = .ok (.return_, 1) := by decide +kernel
set_option maxRecDepth 20000 in
theorem ggX7_readComparison_X7_readSum : GoodIn wsX7_readComparison wsX7_readSum := goodIn_r _ [5, 6, 7, 8, 9, 10, 4, 11, 12, 13, 14, 15, 16, 17, 18, 19, 20, 21, 22, 23, 24, 25, 26, 27, 28, 29, 30, 31, 32, 33, 34, 1, 2, 3, 35, 36, 37, 38, 39, 40, 41, 42, 43, 44, 45, 46, 47, 48, 49, 50, 51, 52, 53, 54, 55, 56, 57, 58, 59, 60, 61, 62] (by decide +kernel) (by decide +kernel)
set_option maxRecDepth 20000 in
theorem gX7_readComparison_X7_readSum : GoodIn wsX7_readComparison (wsV RX7 176 RX7 yX7_readSum wsX7_readSum) := goodIn_app (goodIn_of _ (by decide +kernel)) ggX7_readComparison_X7_readSum
set_option maxRecDepth 20000 in
theorem ggX7_readComparison_X7_kind : GoodIn wsX7_readComparison wsX7_kind := goodIn_r _ [14, 15, 16, 17, 48, 49, 50, 51, 52, 53, 54, 55, 56, 57, 58, 59, 60, 61, 62] (by decide +kernel) (by decide +kernel)
set_option maxRecDepth 20000 in
theorem gX7_readComparison_X7_kind : GoodIn wsX7_readComparison (wsV RX7 68 RX7 yX7_kind wsX7_kind) := goodIn_app (goodIn_of _ (by decide +kernel)) ggX7_readComparison_X7_kind
set_option maxRecDepth 20000 in
theorem ggX7_readComparison_X7_refuse : GoodIn wsX7_readComparison wsX7_refuse := goodIn_r _ [42, 7, 15, 16, 43, 6, 48, 49, 50, 51, 52, 53, 54, 55, 56, 57, 58, 59, 60, 61, 62] (by decide +kernel) (by decide +kernel)
set_option maxRecDepth 20000 in
theorem gX7_readComparison_X7_refuse : GoodIn wsX7_readComparison (wsV RX7 154 RX7 yX7_refuse wsX7_refuse) := goodIn_app (goodIn_of _ (by decide +kernel)) ggX7_readComparison_X7_refuse
set_option maxRecDepth 20000 in
theorem ggX7_readComparison_X7_advance : GoodIn wsX7_readComparison wsX7_advance := goodIn_r _ [21, 7, 15, 48, 49, 50, 51, 52, 53, 54, 55, 56, 57, 58, 59, 60, 61, 62] (by decide +kernel) (by decide +kernel)
set_option maxRecDepth 20000 in
theorem gX7_readComparison_X7_advance : GoodIn wsX7_readComparison (wsV RX7 157 RX7 yX7_advance wsX7_advance) := goodIn_app (goodIn_of _ (by decide +kernel)) ggX7_readComparison_X7_advance
set_option maxRecDepth 20000 in
theorem ggX7_readComparison_X7_emit : GoodIn wsX7_readComparison wsX7_emit := goodIn_r _ [25, 7, 26, 27, 48, 49, 50, 51, 52, 53, 54, 55, 56, 57, 58, 59, 60, 61, 62] (by decide +kernel) (by decide +kernel)
set_option maxRecDepth 20000 in
theorem gX7_readComparison_X7_emit : GoodIn wsX7_readComparison (wsV RX7 185 RX7 yX7_emit wsX7_emit) := goodIn_app (goodIn_of _ (by decide +kernel)) ggX7_readComparison_X7_emit
theorem dX7_readComparison_0 : decode cX7_readComparison 0 = .ok (.aload_n 0, 1) := by decide +kernel
theorem dX7_readComparison_1 : decode cX7_readComparison 1 = .ok (.iload_n 1, 1) := by decide +kernel
theorem dX7_readComparison_2 : decode cX7_readComparison 2 = .ok (.invokevirtual 176, 3) := by decide +kernel
theorem dX7_readComparison_5 : decode cX7_readComparison 5 = .ok (.aload_n 0, 1) := by decide +kernel
theorem dX7_readComparison_6 : decode cX7_readComparison 6 = .ok (.invokevirtual 68, 3) := by decide +kernel
theorem dX7_readComparison_9 : decode cX7_readComparison 9 = .ok (.istore_n 2, 1) := by decide +kernel
theorem dX7_readComparison_10 : decode cX7_readComparison 10 = .ok (.iload_n 2, 1) := by decide +kernel
theorem dX7_readComparison_11 : decode cX7_readComparison 11 = .ok (.bipush 60, 2) := by decide +kernel
theorem dX7_readComparison_13 : decode cX7_readComparison 13 = .ok (.if_icmp .eq 20, 3) := by decide +kernel
theorem dX7_readComparison_16 : decode cX7_readComparison 16 = .ok (.iload_n 2, 1) := by decide +kernel
theorem dX7_readComparison_17 : decode cX7_readComparison 17 = .ok (.bipush 62, 2) := by decide +kernel
theorem dX7_readComparison_19 : decode cX7_readComparison 19 = .ok (.if_icmp .eq 14, 3) := by decide +kernel
theorem dX7_readComparison_22 : decode cX7_readComparison 22 = .ok (.iload_n 2, 1) := by decide +kernel
theorem dX7_readComparison_23 : decode cX7_readComparison 23 = .ok (.bipush 61, 2) := by decide +kernel
theorem dX7_readComparison_25 : decode cX7_readComparison 25 = .ok (.if_icmp .eq 8, 3) := by decide +kernel
theorem dX7_readComparison_28 : decode cX7_readComparison 28 = .ok (.aload_n 0, 1) := by decide +kernel
theorem dX7_readComparison_29 : decode cX7_readComparison 29 = .ok (.invokevirtual 154, 3) := by decide +kernel
theorem dX7_readComparison_32 : decode cX7_readComparison 32 = .ok (.return_, 1) := by decide +kernel
theorem dX7_readComparison_33 : decode cX7_readComparison 33 = .ok (.aload_n 0, 1) := by decide +kernel
theorem dX7_readComparison_34 : decode cX7_readComparison 34 = .ok (.invokevirtual 157, 3) := by decide +kernel
theorem dX7_readComparison_37 : decode cX7_readComparison 37 = .ok (.aload_n 0, 1) := by decide +kernel
theorem dX7_readComparison_38 : decode cX7_readComparison 38 = .ok (.iload_n 1, 1) := by decide +kernel
theorem dX7_readComparison_39 : decode cX7_readComparison 39 = .ok (.invokevirtual 176, 3) := by decide +kernel
theorem dX7_readComparison_42 : decode cX7_readComparison 42 = .ok (.aload_n 0, 1) := by decide +kernel
theorem dX7_readComparison_43 : decode cX7_readComparison 43 = .ok (.iload_n 2, 1) := by decide +kernel
theorem dX7_readComparison_44 : decode cX7_readComparison 44 = .ok (.bipush 60, 2) := by decide +kernel
theorem dX7_readComparison_46 : decode cX7_readComparison 46 = .ok (.if_icmp .ne 8, 3) := by decide +kernel
theorem dX7_readComparison_49 : decode cX7_readComparison 49 = .ok (.bipush (-15), 2) := by decide +kernel
theorem dX7_readComparison_51 : decode cX7_readComparison 51 = .ok (.goto 16, 3) := by decide +kernel
theorem dX7_readComparison_54 : decode cX7_readComparison 54 = .ok (.iload_n 2, 1) := by decide +kernel
theorem dX7_readComparison_55 : decode cX7_readComparison 55 = .ok (.bipush 62, 2) := by decide +kernel
theorem dX7_readComparison_57 : decode cX7_readComparison 57 = .ok (.if_icmp .ne 8, 3) := by decide +kernel
theorem dX7_readComparison_60 : decode cX7_readComparison 60 = .ok (.bipush (-16), 2) := by decide +kernel
theorem dX7_readComparison_62 : decode cX7_readComparison 62 = .ok (.goto 5, 3) := by decide +kernel
theorem dX7_readComparison_65 : decode cX7_readComparison 65 = .ok (.bipush (-17), 2) := by decide +kernel
theorem dX7_readComparison_67 : decode cX7_readComparison 67 = .ok (.invokevirtual 185, 3) := by decide +kernel
theorem dX7_readComparison_70 : decode cX7_readComparison 70 = .ok (.return_, 1) := by decide +kernel
set_option maxRecDepth 20000 in
theorem ggX7_readSum_X7_readProduct : GoodIn wsX7_readSum wsX7_readProduct := goodIn_r _ [43, 1, 2, 44, 45, 46, 6, 7, 8, 9, 10, 11, 12, 13, 14, 15, 16, 17, 18, 19, 20, 21, 22, 23, 24, 25, 26, 27, 28, 29, 30, 31, 32, 33, 34, 35, 36, 37, 38, 39, 40, 41, 42, 0, 3, 4, 5, 47, 48, 49, 50, 51, 52, 53, 54, 55, 56, 57, 58, 59, 60, 61] (by decide +kernel) (by decide +kernel)
set_option maxRecDepth 20000 in
theorem gX7_readSum_X7_readProduct : GoodIn wsX7_readSum (wsV RX7 199 RX7 yX7_readProduct wsX7_readProduct) := goodIn_app (goodIn_of _ (by decide +kernel)) ggX7_readSum_X7_readProduct
set_option maxRecDepth 20000 in
theorem ggX7_readSum_X7_kind : GoodIn wsX7_readSum wsX7_kind := goodIn_r _ [10, 11, 12, 13, 47, 48, 49, 50, 51, 52, 53, 54, 55, 56, 57, 58, 59, 60, 61] (by decide +kernel) (by decide +kernel)
set_option maxRecDepth 20000 in
theorem gX7_readSum_X7_kind : GoodIn wsX7_readSum (wsV RX7 68 RX7 yX7_kind wsX7_kind) := goodIn_app (goodIn_of _ (by decide +kernel)) ggX7_readSum_X7_kind
set_option maxRecDepth 20000 in
theorem ggX7_readSum_X7_advance : GoodIn wsX7_readSum wsX7_advance := goodIn_r _ [17, 2, 11, 47, 48, 49, 50, 51, 52, 53, 54, 55, 56, 57, 58, 59, 60, 61] (by decide +kernel) (by decide +kernel)
set_option maxRecDepth 20000 in
theorem gX7_readSum_X7_advance : GoodIn wsX7_readSum (wsV RX7 157 RX7 yX7_advance wsX7_advance) := goodIn_app (goodIn_of _ (by decide +kernel)) ggX7_readSum_X7_advance
set_option maxRecDepth 20000 in
theorem ggX7_readSum_X7_emit : GoodIn wsX7_readSum wsX7_emit := goodIn_r _ [21, 2, 22, 23, 47, 48, 49, 50, 51, 52, 53, 54, 55, 56, 57, 58, 59, 60, 61] (by decide +kernel) (by decide +kernel)
set_option maxRecDepth 20000 in
theorem gX7_readSum_X7_emit : GoodIn wsX7_readSum (wsV RX7 185 RX7 yX7_emit wsX7_emit) := goodIn_app (goodIn_of _ (by decide +kernel)) ggX7_readSum_X7_emit
theorem dX7_readSum_0 : decode cX7_readSum 0 = .ok (.aload_n 0, 1) := by decide +kernel
theorem dX7_readSum_1 : decode cX7_readSum 1 = .ok (.iload_n 1, 1) := by decide +kernel
theorem dX7_readSum_2 : decode cX7_readSum 2 = .ok (.invokevirtual 199, 3) := by decide +kernel
theorem dX7_readSum_5 : decode cX7_readSum 5 = .ok (.iconst 0, 1) := by decide +kernel
theorem dX7_readSum_6 : decode cX7_readSum 6 = .ok (.istore_n 2, 1) := by decide +kernel
theorem dX7_readSum_7 : decode cX7_readSum 7 = .ok (.iload_n 2, 1) := by decide +kernel
theorem dX7_readSum_8 : decode cX7_readSum 8 = .ok (.aload_n 0, 1) := by decide +kernel
theorem dX7_readSum_9 : decode cX7_readSum 9 = .ok (.getfield 43, 3) := by decide +kernel
theorem dX7_readSum_12 : decode cX7_readSum 12 = .ok (.if_icmp .ge 66, 3) := by decide +kernel
theorem dX7_readSum_15 : decode cX7_readSum 15 = .ok (.aload_n 0, 1) := by decide +kernel
theorem dX7_readSum_16 : decode cX7_readSum 16 = .ok (.getfield 50, 3) := by decide +kernel
theorem dX7_readSum_19 : decode cX7_readSum 19 = .ok (.iconst (-1), 1) := by decide +kernel
theorem dX7_readSum_20 : decode cX7_readSum 20 = .ok (.if_icmp .ne 58, 3) := by decide +kernel
theorem dX7_readSum_23 : decode cX7_readSum 23 = .ok (.aload_n 0, 1) := by decide +kernel
theorem dX7_readSum_24 : decode cX7_readSum 24 = .ok (.invokevirtual 68, 3) := by decide +kernel
theorem dX7_readSum_27 : decode cX7_readSum 27 = .ok (.bipush 43, 2) := by decide +kernel
theorem dX7_readSum_29 : decode cX7_readSum 29 = .ok (.if_icmp .eq 12, 3) := by decide +kernel
theorem dX7_readSum_32 : decode cX7_readSum 32 = .ok (.aload_n 0, 1) := by decide +kernel
theorem dX7_readSum_33 : decode cX7_readSum 33 = .ok (.invokevirtual 68, 3) := by decide +kernel
theorem dX7_readSum_36 : decode cX7_readSum 36 = .ok (.bipush 45, 2) := by decide +kernel
theorem dX7_readSum_38 : decode cX7_readSum 38 = .ok (.if_icmp .ne 40, 3) := by decide +kernel
theorem dX7_readSum_41 : decode cX7_readSum 41 = .ok (.aload_n 0, 1) := by decide +kernel
theorem dX7_readSum_42 : decode cX7_readSum 42 = .ok (.invokevirtual 68, 3) := by decide +kernel
theorem dX7_readSum_45 : decode cX7_readSum 45 = .ok (.bipush 43, 2) := by decide +kernel
theorem dX7_readSum_47 : decode cX7_readSum 47 = .ok (.if_icmp .ne 8, 3) := by decide +kernel
theorem dX7_readSum_50 : decode cX7_readSum 50 = .ok (.bipush (-11), 2) := by decide +kernel
theorem dX7_readSum_52 : decode cX7_readSum 52 = .ok (.goto 5, 3) := by decide +kernel
theorem dX7_readSum_55 : decode cX7_readSum 55 = .ok (.bipush (-12), 2) := by decide +kernel
theorem dX7_readSum_57 : decode cX7_readSum 57 = .ok (.istore_n 3, 1) := by decide +kernel
theorem dX7_readSum_58 : decode cX7_readSum 58 = .ok (.aload_n 0, 1) := by decide +kernel
theorem dX7_readSum_59 : decode cX7_readSum 59 = .ok (.invokevirtual 157, 3) := by decide +kernel
theorem dX7_readSum_62 : decode cX7_readSum 62 = .ok (.aload_n 0, 1) := by decide +kernel
theorem dX7_readSum_63 : decode cX7_readSum 63 = .ok (.iload_n 1, 1) := by decide +kernel
theorem dX7_readSum_64 : decode cX7_readSum 64 = .ok (.invokevirtual 199, 3) := by decide +kernel
theorem dX7_readSum_67 : decode cX7_readSum 67 = .ok (.aload_n 0, 1) := by decide +kernel
theorem dX7_readSum_68 : decode cX7_readSum 68 = .ok (.iload_n 3, 1) := by decide +kernel
theorem dX7_readSum_69 : decode cX7_readSum 69 = .ok (.invokevirtual 185, 3) := by decide +kernel
theorem dX7_readSum_72 : decode cX7_readSum 72 = .ok (.iinc 2 1, 3) := by decide +kernel
theorem dX7_readSum_75 : decode cX7_readSum 75 = .ok (.goto (-68), 3) := by decide +kernel
theorem dX7_readSum_78 : decode cX7_readSum 78 = .ok (.return_, 1) := by decide +kernel
set_option maxRecDepth 20000 in
theorem ggX7_readProduct_X7_readFactor : GoodIn wsX7_readProduct wsX7_readFactor := goodIn_r _ [24, 2, 25, 11, 26, 7, 8, 9, 6, 10, 12, 13, 27, 28, 29, 30, 18, 19, 20, 21, 22, 23, 14, 15, 16, 17, 31, 32, 33, 34, 35, 36, 37, 38, 39, 40, 41, 42, 1, 0, 3, 4, 5, 43, 44, 45, 46, 47, 48, 49, 50, 51, 52, 53, 54, 55, 56, 57, 58, 59, 60, 61] (by decide +kernel) (by decide +kernel)
set_option maxRecDepth 20000 in
theorem gX7_readProduct_X7_readFactor : GoodIn wsX7_readProduct (wsV RX7 202 RX7 yX7_readFactor wsX7_readFactor) := goodIn_app (goodIn_of _ (by decide +kernel)) ggX7_readProduct_X7_readFactor
set_option maxRecDepth 20000 in
theorem ggX7_readProduct_X7_kind : GoodIn wsX7_readProduct wsX7_kind := goodIn_r _ [10, 11, 12, 13, 47, 48, 49, 50, 51, 52, 53, 54, 55, 56, 57, 58, 59, 60, 61] (by decide +kernel) (by decide +kernel)
set_option maxRecDepth 20000 in
theorem gX7_readProduct_X7_kind : GoodIn wsX7_readProduct (wsV RX7 68 RX7 yX7_kind wsX7_kind) := goodIn_app (goodIn_of _ (by decide +kernel)) ggX7_readProduct_X7_kind
set_option maxRecDepth 20000 in
theorem ggX7_readProduct_X7_advance : GoodIn wsX7_readProduct wsX7_advance := goodIn_r _ [17, 2, 11, 47, 48, 49, 50, 51, 52, 53, 54, 55, 56, 57, 58, 59, 60, 61] (by decide +kernel) (by decide +kernel)
set_option maxRecDepth 20000 in
theorem gX7_readProduct_X7_advance : GoodIn wsX7_readProduct (wsV RX7 157 RX7 yX7_advance wsX7_advance) := goodIn_app (goodIn_of _ (by decide +kernel)) ggX7_readProduct_X7_advance
set_option maxRecDepth 20000 in
theorem ggX7_readProduct_X7_emit : GoodIn wsX7_readProduct wsX7_emit := goodIn_r _ [21, 2, 22, 23, 47, 48, 49, 50, 51, 52, 53, 54, 55, 56, 57, 58, 59, 60, 61] (by decide +kernel) (by decide +kernel)
set_option maxRecDepth 20000 in
theorem gX7_readProduct_X7_emit : GoodIn wsX7_readProduct (wsV RX7 185 RX7 yX7_emit wsX7_emit) := goodIn_app (goodIn_of _ (by decide +kernel)) ggX7_readProduct_X7_emit
theorem dX7_readProduct_0 : decode cX7_readProduct 0 = .ok (.aload_n 0, 1) := by decide +kernel
theorem dX7_readProduct_1 : decode cX7_readProduct 1 = .ok (.iload_n 1, 1) := by decide +kernel
theorem dX7_readProduct_2 : decode cX7_readProduct 2 = .ok (.invokevirtual 202, 3) := by decide +kernel
theorem dX7_readProduct_5 : decode cX7_readProduct 5 = .ok (.iconst 0, 1) := by decide +kernel
theorem dX7_readProduct_6 : decode cX7_readProduct 6 = .ok (.istore_n 2, 1) := by decide +kernel
theorem dX7_readProduct_7 : decode cX7_readProduct 7 = .ok (.iload_n 2, 1) := by decide +kernel
theorem dX7_readProduct_8 : decode cX7_readProduct 8 = .ok (.aload_n 0, 1) := by decide +kernel
theorem dX7_readProduct_9 : decode cX7_readProduct 9 = .ok (.getfield 43, 3) := by decide +kernel
theorem dX7_readProduct_12 : decode cX7_readProduct 12 = .ok (.if_icmp .ge 66, 3) := by decide +kernel
theorem dX7_readProduct_15 : decode cX7_readProduct 15 = .ok (.aload_n 0, 1) := by decide +kernel
theorem dX7_readProduct_16 : decode cX7_readProduct 16 = .ok (.getfield 50, 3) := by decide +kernel
theorem dX7_readProduct_19 : decode cX7_readProduct 19 = .ok (.iconst (-1), 1) := by decide +kernel
theorem dX7_readProduct_20 : decode cX7_readProduct 20 = .ok (.if_icmp .ne 58, 3) := by decide +kernel
theorem dX7_readProduct_23 : decode cX7_readProduct 23 = .ok (.aload_n 0, 1) := by decide +kernel
theorem dX7_readProduct_24 : decode cX7_readProduct 24 = .ok (.invokevirtual 68, 3) := by decide +kernel
theorem dX7_readProduct_27 : decode cX7_readProduct 27 = .ok (.bipush 42, 2) := by decide +kernel
theorem dX7_readProduct_29 : decode cX7_readProduct 29 = .ok (.if_icmp .eq 12, 3) := by decide +kernel
theorem dX7_readProduct_32 : decode cX7_readProduct 32 = .ok (.aload_n 0, 1) := by decide +kernel
theorem dX7_readProduct_33 : decode cX7_readProduct 33 = .ok (.invokevirtual 68, 3) := by decide +kernel
theorem dX7_readProduct_36 : decode cX7_readProduct 36 = .ok (.bipush 47, 2) := by decide +kernel
theorem dX7_readProduct_38 : decode cX7_readProduct 38 = .ok (.if_icmp .ne 40, 3) := by decide +kernel
theorem dX7_readProduct_41 : decode cX7_readProduct 41 = .ok (.aload_n 0, 1) := by decide +kernel
theorem dX7_readProduct_42 : decode cX7_readProduct 42 = .ok (.invokevirtual 68, 3) := by decide +kernel
theorem dX7_readProduct_45 : decode cX7_readProduct 45 = .ok (.bipush 42, 2) := by decide +kernel
theorem dX7_readProduct_47 : decode cX7_readProduct 47 = .ok (.if_icmp .ne 8, 3) := by decide +kernel
theorem dX7_readProduct_50 : decode cX7_readProduct 50 = .ok (.bipush (-13), 2) := by decide +kernel
theorem dX7_readProduct_52 : decode cX7_readProduct 52 = .ok (.goto 5, 3) := by decide +kernel
theorem dX7_readProduct_55 : decode cX7_readProduct 55 = .ok (.bipush (-14), 2) := by decide +kernel
theorem dX7_readProduct_57 : decode cX7_readProduct 57 = .ok (.istore_n 3, 1) := by decide +kernel
theorem dX7_readProduct_58 : decode cX7_readProduct 58 = .ok (.aload_n 0, 1) := by decide +kernel
theorem dX7_readProduct_59 : decode cX7_readProduct 59 = .ok (.invokevirtual 157, 3) := by decide +kernel
theorem dX7_readProduct_62 : decode cX7_readProduct 62 = .ok (.aload_n 0, 1) := by decide +kernel
theorem dX7_readProduct_63 : decode cX7_readProduct 63 = .ok (.iload_n 1, 1) := by decide +kernel
theorem dX7_readProduct_64 : decode cX7_readProduct 64 = .ok (.invokevirtual 202, 3) := by decide +kernel
theorem dX7_readProduct_67 : decode cX7_readProduct 67 = .ok (.aload_n 0, 1) := by decide +kernel
theorem dX7_readProduct_68 : decode cX7_readProduct 68 = .ok (.iload_n 3, 1) := by decide +kernel
theorem dX7_readProduct_69 : decode cX7_readProduct 69 = .ok (.invokevirtual 185, 3) := by decide +kernel
theorem dX7_readProduct_72 : decode cX7_readProduct 72 = .ok (.iinc 2 1, 3) := by decide +kernel
theorem dX7_readProduct_75 : decode cX7_readProduct 75 = .ok (.goto (-68), 3) := by decide +kernel
theorem dX7_readProduct_78 : decode cX7_readProduct 78 = .ok (.return_, 1) := by decide +kernel
set_option maxRecDepth 20000 in
theorem ggX7_readFactor_X7_kind : GoodIn wsX7_readFactor wsX7_kind := goodIn_r _ [9, 3, 10, 11, 47, 48, 49, 50, 51, 52, 53, 54, 55, 56, 57, 58, 59, 60, 61] (by decide +kernel) (by decide +kernel)
set_option maxRecDepth 20000 in
theorem gX7_readFactor_X7_kind : GoodIn wsX7_readFactor (wsV RX7 68 RX7 yX7_kind wsX7_kind) := goodIn_app (goodIn_of _ (by decide +kernel)) ggX7_readFactor_X7_kind
set_option maxRecDepth 20000 in
theorem ggX7_readFactor_X7_word : GoodIn wsX7_readFactor wsX7_word := goodIn_r _ [15, 2, 3, 5, 6, 7, 8, 9, 10, 11, 47, 48, 49, 50, 51, 52, 53, 54, 55, 56, 57, 58, 59, 60, 61] (by decide +kernel) (by decide +kernel)
set_option maxRecDepth 20000 in
theorem gX7_readFactor_X7_word : GoodIn wsX7_readFactor (wsV RX7 160 RX7 yX7_word wsX7_word) := goodIn_app (goodIn_of _ (by decide +kernel)) ggX7_readFactor_X7_word
set_option maxRecDepth 20000 in
theorem ggX7_readFactor_X7_emit : GoodIn wsX7_readFactor wsX7_emit := goodIn_r _ [19, 1, 20, 21, 47, 48, 49, 50, 51, 52, 53, 54, 55, 56, 57, 58, 59, 60, 61] (by decide +kernel) (by decide +kernel)
set_option maxRecDepth 20000 in
theorem gX7_readFactor_X7_emit : GoodIn wsX7_readFactor (wsV RX7 185 RX7 yX7_emit wsX7_emit) := goodIn_app (goodIn_of _ (by decide +kernel)) ggX7_readFactor_X7_emit
set_option maxRecDepth 20000 in
theorem ggX7_readFactor_X7_advance : GoodIn wsX7_readFactor wsX7_advance := goodIn_r _ [25, 1, 3, 47, 48, 49, 50, 51, 52, 53, 54, 55, 56, 57, 58, 59, 60, 61] (by decide +kernel) (by decide +kernel)
set_option maxRecDepth 20000 in
theorem gX7_readFactor_X7_advance : GoodIn wsX7_readFactor (wsV RX7 157 RX7 yX7_advance wsX7_advance) := goodIn_app (goodIn_of _ (by decide +kernel)) ggX7_readFactor_X7_advance
set_option maxRecDepth 20000 in
theorem ggX7_readFactor_X7_readSum : GoodIn wsX7_readFactor wsX7_readSum := goodIn_r _ [43, 38, 1, 44, 45, 46, 8, 5, 6, 7, 9, 3, 10, 11, 22, 23, 24, 25, 16, 17, 18, 19, 20, 21, 0, 2, 4, 12, 13, 14, 15, 26, 27, 28, 29, 30, 31, 32, 33, 34, 35, 36, 37, 39, 40, 41, 42, 47, 48, 49, 50, 51, 52, 53, 54, 55, 56, 57, 58, 59, 60, 61] (by decide +kernel) (by decide +kernel)
set_option maxRecDepth 20000 in
theorem gX7_readFactor_X7_readSum : GoodIn wsX7_readFactor (wsV RX7 176 RX7 yX7_readSum wsX7_readSum) := goodIn_app (goodIn_of _ (by decide +kernel)) ggX7_readFactor_X7_readSum
set_option maxRecDepth 20000 in
theorem ggX7_readFactor_X7_expect : GoodIn wsX7_readFactor wsX7_expect := goodIn_r _ [32, 5, 6, 7, 8, 9, 3, 10, 11, 33, 34, 35, 36, 1, 37, 38, 22, 23, 24, 25, 47, 48, 49, 50, 51, 52, 53, 54, 55, 56, 57, 58, 59, 60, 61] (by decide +kernel) (by decide +kernel)
set_option maxRecDepth 20000 in
theorem gX7_readFactor_X7_expect : GoodIn wsX7_readFactor (wsV RX7 182 RX7 yX7_expect wsX7_expect) := goodIn_app (goodIn_of _ (by decide +kernel)) ggX7_readFactor_X7_expect
set_option maxRecDepth 20000 in
theorem ggX7_readFactor_X7_refuse : GoodIn wsX7_readFactor wsX7_refuse := goodIn_r _ [36, 1, 3, 10, 37, 38, 47, 48, 49, 50, 51, 52, 53, 54, 55, 56, 57, 58, 59, 60, 61] (by decide +kernel) (by decide +kernel)
set_option maxRecDepth 20000 in
theorem gX7_readFactor_X7_refuse : GoodIn wsX7_readFactor (wsV RX7 154 RX7 yX7_refuse wsX7_refuse) := goodIn_app (goodIn_of _ (by decide +kernel)) ggX7_readFactor_X7_refuse
theorem dX7_readFactor_0 : decode cX7_readFactor 0 = .ok (.aload_n 0, 1) := by decide +kernel
theorem dX7_readFactor_1 : decode cX7_readFactor 1 = .ok (.getfield 50, 3) := by decide +kernel
theorem dX7_readFactor_4 : decode cX7_readFactor 4 = .ok (.iconst (-1), 1) := by decide +kernel
theorem dX7_readFactor_5 : decode cX7_readFactor 5 = .ok (.if_icmp .eq 4, 3) := by decide +kernel
theorem dX7_readFactor_8 : decode cX7_readFactor 8 = .ok (.return_, 1) := by decide +kernel
theorem dX7_readFactor_9 : decode cX7_readFactor 9 = .ok (.aload_n 0, 1) := by decide +kernel
theorem dX7_readFactor_10 : decode cX7_readFactor 10 = .ok (.invokevirtual 68, 3) := by decide +kernel
theorem dX7_readFactor_13 : decode cX7_readFactor 13 = .ok (.istore_n 2, 1) := by decide +kernel
theorem dX7_readFactor_14 : decode cX7_readFactor 14 = .ok (.aload_n 0, 1) := by decide +kernel
theorem dX7_readFactor_15 : decode cX7_readFactor 15 = .ok (.invokevirtual 160, 3) := by decide +kernel
theorem dX7_readFactor_18 : decode cX7_readFactor 18 = .ok (.istore_n 3, 1) := by decide +kernel
theorem dX7_readFactor_19 : decode cX7_readFactor 19 = .ok (.iload_n 3, 1) := by decide +kernel
theorem dX7_readFactor_20 : decode cX7_readFactor 20 = .ok (.bipush 12, 2) := by decide +kernel
theorem dX7_readFactor_22 : decode cX7_readFactor 22 = .ok (.if_icmp .lt 26, 3) := by decide +kernel
theorem dX7_readFactor_25 : decode cX7_readFactor 25 = .ok (.iload_n 3, 1) := by decide +kernel
theorem dX7_readFactor_26 : decode cX7_readFactor 26 = .ok (.bipush 20, 2) := by decide +kernel
theorem dX7_readFactor_28 : decode cX7_readFactor 28 = .ok (.if_icmp .gt 20, 3) := by decide +kernel
theorem dX7_readFactor_31 : decode cX7_readFactor 31 = .ok (.aload_n 0, 1) := by decide +kernel
theorem dX7_readFactor_32 : decode cX7_readFactor 32 = .ok (.iconst (-1), 1) := by decide +kernel
theorem dX7_readFactor_33 : decode cX7_readFactor 33 = .ok (.iload_n 3, 1) := by decide +kernel
theorem dX7_readFactor_34 : decode cX7_readFactor 34 = .ok (.bipush 12, 2) := by decide +kernel
theorem dX7_readFactor_36 : decode cX7_readFactor 36 = .ok (.isub, 1) := by decide +kernel
theorem dX7_readFactor_37 : decode cX7_readFactor 37 = .ok (.isub, 1) := by decide +kernel
theorem dX7_readFactor_38 : decode cX7_readFactor 38 = .ok (.invokevirtual 185, 3) := by decide +kernel
theorem dX7_readFactor_41 : decode cX7_readFactor 41 = .ok (.aload_n 0, 1) := by decide +kernel
theorem dX7_readFactor_42 : decode cX7_readFactor 42 = .ok (.invokevirtual 157, 3) := by decide +kernel
theorem dX7_readFactor_45 : decode cX7_readFactor 45 = .ok (.goto 78, 3) := by decide +kernel
theorem dX7_readFactor_48 : decode cX7_readFactor 48 = .ok (.iload_n 2, 1) := by decide +kernel
theorem dX7_readFactor_49 : decode cX7_readFactor 49 = .ok (.iconst 2, 1) := by decide +kernel
theorem dX7_readFactor_50 : decode cX7_readFactor 50 = .ok (.if_icmp .ne 37, 3) := by decide +kernel
theorem dX7_readFactor_53 : decode cX7_readFactor 53 = .ok (.aload_n 0, 1) := by decide +kernel
theorem dX7_readFactor_54 : decode cX7_readFactor 54 = .ok (.getfield 25, 3) := by decide +kernel
theorem dX7_readFactor_57 : decode cX7_readFactor 57 = .ok (.aload_n 0, 1) := by decide +kernel
theorem dX7_readFactor_58 : decode cX7_readFactor 58 = .ok (.getfield 53, 3) := by decide +kernel
theorem dX7_readFactor_61 : decode cX7_readFactor 61 = .ok (.iaload, 1) := by decide +kernel
theorem dX7_readFactor_62 : decode cX7_readFactor 62 = .ok (.ldc 140, 2) := by decide +kernel
theorem dX7_readFactor_64 : decode cX7_readFactor 64 = .ok (.if_icmp .gt 23, 3) := by decide +kernel
theorem dX7_readFactor_67 : decode cX7_readFactor 67 = .ok (.aload_n 0, 1) := by decide +kernel
theorem dX7_readFactor_68 : decode cX7_readFactor 68 = .ok (.aload_n 0, 1) := by decide +kernel
theorem dX7_readFactor_69 : decode cX7_readFactor 69 = .ok (.getfield 25, 3) := by decide +kernel
theorem dX7_readFactor_72 : decode cX7_readFactor 72 = .ok (.aload_n 0, 1) := by decide +kernel
theorem dX7_readFactor_73 : decode cX7_readFactor 73 = .ok (.getfield 53, 3) := by decide +kernel
theorem dX7_readFactor_76 : decode cX7_readFactor 76 = .ok (.iaload, 1) := by decide +kernel
theorem dX7_readFactor_77 : decode cX7_readFactor 77 = .ok (.invokevirtual 185, 3) := by decide +kernel
theorem dX7_readFactor_80 : decode cX7_readFactor 80 = .ok (.aload_n 0, 1) := by decide +kernel
theorem dX7_readFactor_81 : decode cX7_readFactor 81 = .ok (.invokevirtual 157, 3) := by decide +kernel
theorem dX7_readFactor_84 : decode cX7_readFactor 84 = .ok (.goto 39, 3) := by decide +kernel
theorem dX7_readFactor_87 : decode cX7_readFactor 87 = .ok (.iload_n 2, 1) := by decide +kernel
theorem dX7_readFactor_88 : decode cX7_readFactor 88 = .ok (.bipush 40, 2) := by decide +kernel
theorem dX7_readFactor_90 : decode cX7_readFactor 90 = .ok (.if_icmp .ne 29, 3) := by decide +kernel
theorem dX7_readFactor_93 : decode cX7_readFactor 93 = .ok (.iload_n 1, 1) := by decide +kernel
theorem dX7_readFactor_94 : decode cX7_readFactor 94 = .ok (.bipush 8, 2) := by decide +kernel
theorem dX7_readFactor_96 : decode cX7_readFactor 96 = .ok (.if_icmp .ge 23, 3) := by decide +kernel
theorem dX7_readFactor_99 : decode cX7_readFactor 99 = .ok (.aload_n 0, 1) := by decide +kernel
theorem dX7_readFactor_100 : decode cX7_readFactor 100 = .ok (.invokevirtual 157, 3) := by decide +kernel
theorem dX7_readFactor_103 : decode cX7_readFactor 103 = .ok (.aload_n 0, 1) := by decide +kernel
theorem dX7_readFactor_104 : decode cX7_readFactor 104 = .ok (.iload_n 1, 1) := by decide +kernel
theorem dX7_readFactor_105 : decode cX7_readFactor 105 = .ok (.iconst 1, 1) := by decide +kernel
theorem dX7_readFactor_106 : decode cX7_readFactor 106 = .ok (.iadd, 1) := by decide +kernel
theorem dX7_readFactor_107 : decode cX7_readFactor 107 = .ok (.invokevirtual 176, 3) := by decide +kernel
theorem dX7_readFactor_110 : decode cX7_readFactor 110 = .ok (.aload_n 0, 1) := by decide +kernel
theorem dX7_readFactor_111 : decode cX7_readFactor 111 = .ok (.bipush 41, 2) := by decide +kernel
theorem dX7_readFactor_113 : decode cX7_readFactor 113 = .ok (.invokevirtual 182, 3) := by decide +kernel
theorem dX7_readFactor_116 : decode cX7_readFactor 116 = .ok (.goto 7, 3) := by decide +kernel
theorem dX7_readFactor_119 : decode cX7_readFactor 119 = .ok (.aload_n 0, 1) := by decide +kernel
theorem dX7_readFactor_120 : decode cX7_readFactor 120 = .ok (.invokevirtual 154, 3) := by decide +kernel
theorem dX7_readFactor_123 : decode cX7_readFactor 123 = .ok (.return_, 1) := by decide +kernel
theorem dX8_init_0 : decode cX8_init 0 = .ok (.aload_n 0, 1) := by decide +kernel
theorem dX8_init_1 : decode cX8_init 1 = .ok (.invokespecial 3, 3) := by decide +kernel
theorem dX8_init_4 : decode cX8_init 4 = .ok (.aload_n 0, 1) := by decide +kernel
theorem dX8_init_5 : decode cX8_init 5 = .ok (.bipush 12, 2) := by decide +kernel
theorem dX8_init_7 : decode cX8_init 7 = .ok (.anewarray 11, 3) := by decide +kernel
theorem dX8_init_10 : decode cX8_init 10 = .ok (.putfield 13, 3) := by decide +kernel
theorem dX8_init_13 : decode cX8_init 13 = .ok (.aload_n 0, 1) := by decide +kernel
theorem dX8_init_14 : decode cX8_init 14 = .ok (.bipush 20, 2) := by decide +kernel
theorem dX8_init_16 : decode cX8_init 16 = .ok (.newarray .int, 2) := by decide +kernel
theorem dX8_init_18 : decode cX8_init 18 = .ok (.putfield 17, 3) := by decide +kernel
theorem dX8_init_21 : decode cX8_init 21 = .ok (.aload_n 0, 1) := by decide +kernel
theorem dX8_init_22 : decode cX8_init 22 = .ok (.bipush 20, 2) := by decide +kernel
theorem dX8_init_24 : decode cX8_init 24 = .ok (.newarray .int, 2) := by decide +kernel
theorem dX8_init_26 : decode cX8_init 26 = .ok (.putfield 21, 3) := by decide +kernel
theorem dX8_init_29 : decode cX8_init 29 = .ok (.aload_n 0, 1) := by decide +kernel
theorem dX8_init_30 : decode cX8_init 30 = .ok (.bipush 20, 2) := by decide +kernel
theorem dX8_init_32 : decode cX8_init 32 = .ok (.newarray .int, 2) := by decide +kernel
theorem dX8_init_34 : decode cX8_init 34 = .ok (.putfield 24, 3) := by decide +kernel
theorem dX8_init_37 : decode cX8_init 37 = .ok (.aload_n 0, 1) := by decide +kernel
theorem dX8_init_38 : decode cX8_init 38 = .ok (.bipush 9, 2) := by decide +kernel
theorem dX8_init_40 : decode cX8_init 40 = .ok (.newarray .int, 2) := by decide +kernel
theorem dX8_init_42 : decode cX8_init 42 = .ok (.putfield 27, 3) := by decide +kernel
theorem dX8_init_45 : decode cX8_init 45 = .ok (.aload_n 0, 1) := by decide +kernel
theorem dX8_init_46 : decode cX8_init 46 = .ok (.bipush 64, 2) := by decide +kernel
theorem dX8_init_48 : decode cX8_init 48 = .ok (.newarray .int, 2) := by decide +kernel
theorem dX8_init_50 : decode cX8_init 50 = .ok (.putfield 30, 3) := by decide +kernel
theorem dX8_init_53 : decode cX8_init 53 = .ok (.return_, 1) := by decide +kernel
theorem dX8_hasRoomForSheet_0 : decode cX8_hasRoomForSheet 0 = .ok (.aload_n 0, 1) := by decide +kernel
theorem dX8_hasRoomForSheet_1 : decode cX8_hasRoomForSheet 1 = .ok (.getfield 33, 3) := by decide +kernel
theorem dX8_hasRoomForSheet_4 : decode cX8_hasRoomForSheet 4 = .ok (.bipush 12, 2) := by decide +kernel
theorem dX8_hasRoomForSheet_6 : decode cX8_hasRoomForSheet 6 = .ok (.if_icmp .ge 7, 3) := by decide +kernel
theorem dX8_hasRoomForSheet_9 : decode cX8_hasRoomForSheet 9 = .ok (.iconst 1, 1) := by decide +kernel
theorem dX8_hasRoomForSheet_10 : decode cX8_hasRoomForSheet 10 = .ok (.goto 4, 3) := by decide +kernel
theorem dX8_hasRoomForSheet_13 : decode cX8_hasRoomForSheet 13 = .ok (.iconst 0, 1) := by decide +kernel
theorem dX8_hasRoomForSheet_14 : decode cX8_hasRoomForSheet 14 = .ok (.ireturn, 1) := by decide +kernel
theorem dX8_keep_0 : decode cX8_keep 0 = .ok (.aload_n 0, 1) := by decide +kernel
theorem dX8_keep_1 : decode cX8_keep 1 = .ok (.getfield 33, 3) := by decide +kernel
theorem dX8_keep_4 : decode cX8_keep 4 = .ok (.ifCond .lt 12, 3) := by decide +kernel
theorem dX8_keep_7 : decode cX8_keep 7 = .ok (.aload_n 0, 1) := by decide +kernel
theorem dX8_keep_8 : decode cX8_keep 8 = .ok (.getfield 33, 3) := by decide +kernel
theorem dX8_keep_11 : decode cX8_keep 11 = .ok (.bipush 12, 2) := by decide +kernel
theorem dX8_keep_13 : decode cX8_keep 13 = .ok (.if_icmp .lt 5, 3) := by decide +kernel
theorem dX8_keep_16 : decode cX8_keep 16 = .ok (.iconst (-1), 1) := by decide +kernel
theorem dX8_keep_17 : decode cX8_keep 17 = .ok (.ireturn, 1) := by decide +kernel
theorem dX8_keep_18 : decode cX8_keep 18 = .ok (.aload_n 0, 1) := by decide +kernel
theorem dX8_keep_19 : decode cX8_keep 19 = .ok (.getfield 13, 3) := by decide +kernel
theorem dX8_keep_22 : decode cX8_keep 22 = .ok (.aload_n 0, 1) := by decide +kernel
theorem dX8_keep_23 : decode cX8_keep 23 = .ok (.getfield 33, 3) := by decide +kernel
theorem dX8_keep_26 : decode cX8_keep 26 = .ok (.aload_n 1, 1) := by decide +kernel
theorem dX8_keep_27 : decode cX8_keep 27 = .ok (.aastore, 1) := by decide +kernel
theorem dX8_keep_28 : decode cX8_keep 28 = .ok (.aload_n 0, 1) := by decide +kernel
theorem dX8_keep_29 : decode cX8_keep 29 = .ok (.dup, 1) := by decide +kernel
theorem dX8_keep_30 : decode cX8_keep 30 = .ok (.getfield 33, 3) := by decide +kernel
theorem dX8_keep_33 : decode cX8_keep 33 = .ok (.iconst 1, 1) := by decide +kernel
theorem dX8_keep_34 : decode cX8_keep 34 = .ok (.iadd, 1) := by decide +kernel
theorem dX8_keep_35 : decode cX8_keep 35 = .ok (.putfield 33, 3) := by decide +kernel
theorem dX8_keep_38 : decode cX8_keep 38 = .ok (.aload_n 0, 1) := by decide +kernel
theorem dX8_keep_39 : decode cX8_keep 39 = .ok (.getfield 33, 3) := by decide +kernel
theorem dX8_keep_42 : decode cX8_keep 42 = .ok (.iconst 1, 1) := by decide +kernel
theorem dX8_keep_43 : decode cX8_keep 43 = .ok (.isub, 1) := by decide +kernel
theorem dX8_keep_44 : decode cX8_keep 44 = .ok (.ireturn, 1) := by decide +kernel
theorem dX8_put_0 : decode cX8_put 0 = .ok (.iload_n 1, 1) := by decide +kernel
theorem dX8_put_1 : decode cX8_put 1 = .ok (.ifCond .lt 27, 3) := by decide +kernel
theorem dX8_put_4 : decode cX8_put 4 = .ok (.iload_n 1, 1) := by decide +kernel
theorem dX8_put_5 : decode cX8_put 5 = .ok (.aload_n 0, 1) := by decide +kernel
theorem dX8_put_6 : decode cX8_put 6 = .ok (.getfield 33, 3) := by decide +kernel
theorem dX8_put_9 : decode cX8_put 9 = .ok (.if_icmp .ge 19, 3) := by decide +kernel
theorem dX8_put_12 : decode cX8_put 12 = .ok (.aload_n 0, 1) := by decide +kernel
theorem dX8_put_13 : decode cX8_put 13 = .ok (.getfield 37, 3) := by decide +kernel
theorem dX8_put_16 : decode cX8_put 16 = .ok (.ifCond .lt 12, 3) := by decide +kernel
theorem dX8_put_19 : decode cX8_put 19 = .ok (.aload_n 0, 1) := by decide +kernel
theorem dX8_put_20 : decode cX8_put 20 = .ok (.getfield 37, 3) := by decide +kernel
theorem dX8_put_23 : decode cX8_put 23 = .ok (.bipush 20, 2) := by decide +kernel
theorem dX8_put_25 : decode cX8_put 25 = .ok (.if_icmp .lt 5, 3) := by decide +kernel
theorem dX8_put_28 : decode cX8_put 28 = .ok (.iconst (-1), 1) := by decide +kernel
theorem dX8_put_29 : decode cX8_put 29 = .ok (.ireturn, 1) := by decide +kernel
theorem dX8_put_30 : decode cX8_put 30 = .ok (.aload_n 0, 1) := by decide +kernel
theorem dX8_put_31 : decode cX8_put 31 = .ok (.getfield 17, 3) := by decide +kernel
theorem dX8_put_34 : decode cX8_put 34 = .ok (.aload_n 0, 1) := by decide +kernel
theorem dX8_put_35 : decode cX8_put 35 = .ok (.getfield 37, 3) := by decide +kernel
theorem dX8_put_38 : decode cX8_put 38 = .ok (.iload_n 1, 1) := by decide +kernel
theorem dX8_put_39 : decode cX8_put 39 = .ok (.iastore, 1) := by decide +kernel
theorem dX8_put_40 : decode cX8_put 40 = .ok (.aload_n 0, 1) := by decide +kernel
theorem dX8_put_41 : decode cX8_put 41 = .ok (.getfield 21, 3) := by decide +kernel
theorem dX8_put_44 : decode cX8_put 44 = .ok (.aload_n 0, 1) := by decide +kernel
theorem dX8_put_45 : decode cX8_put 45 = .ok (.getfield 37, 3) := by decide +kernel
theorem dX8_put_48 : decode cX8_put 48 = .ok (.iload_n 2, 1) := by decide +kernel
theorem dX8_put_49 : decode cX8_put 49 = .ok (.iastore, 1) := by decide +kernel
theorem dX8_put_50 : decode cX8_put 50 = .ok (.aload_n 0, 1) := by decide +kernel
theorem dX8_put_51 : decode cX8_put 51 = .ok (.getfield 24, 3) := by decide +kernel
theorem dX8_put_54 : decode cX8_put 54 = .ok (.aload_n 0, 1) := by decide +kernel
theorem dX8_put_55 : decode cX8_put 55 = .ok (.getfield 37, 3) := by decide +kernel
theorem dX8_put_58 : decode cX8_put 58 = .ok (.iload_n 3, 1) := by decide +kernel
theorem dX8_put_59 : decode cX8_put 59 = .ok (.iastore, 1) := by decide +kernel
theorem dX8_put_60 : decode cX8_put 60 = .ok (.aload_n 0, 1) := by decide +kernel
theorem dX8_put_61 : decode cX8_put 61 = .ok (.dup, 1) := by decide +kernel
theorem dX8_put_62 : decode cX8_put 62 = .ok (.getfield 37, 3) := by decide +kernel
theorem dX8_put_65 : decode cX8_put 65 = .ok (.iconst 1, 1) := by decide +kernel
theorem dX8_put_66 : decode cX8_put 66 = .ok (.iadd, 1) := by decide +kernel
theorem dX8_put_67 : decode cX8_put 67 = .ok (.putfield 37, 3) := by decide +kernel
theorem dX8_put_70 : decode cX8_put 70 = .ok (.aload_n 0, 1) := by decide +kernel
theorem dX8_put_71 : decode cX8_put 71 = .ok (.getfield 37, 3) := by decide +kernel
theorem dX8_put_74 : decode cX8_put 74 = .ok (.ireturn, 1) := by decide +kernel
theorem dX8_sheetOfPut_0 : decode cX8_sheetOfPut 0 = .ok (.iload_n 1, 1) := by decide +kernel
theorem dX8_sheetOfPut_1 : decode cX8_sheetOfPut 1 = .ok (.ifCond .lt 27, 3) := by decide +kernel
theorem dX8_sheetOfPut_4 : decode cX8_sheetOfPut 4 = .ok (.iload_n 1, 1) := by decide +kernel
theorem dX8_sheetOfPut_5 : decode cX8_sheetOfPut 5 = .ok (.aload_n 0, 1) := by decide +kernel
theorem dX8_sheetOfPut_6 : decode cX8_sheetOfPut 6 = .ok (.getfield 37, 3) := by decide +kernel
theorem dX8_sheetOfPut_9 : decode cX8_sheetOfPut 9 = .ok (.if_icmp .ge 19, 3) := by decide +kernel
theorem dX8_sheetOfPut_12 : decode cX8_sheetOfPut 12 = .ok (.iload_n 1, 1) := by decide +kernel
theorem dX8_sheetOfPut_13 : decode cX8_sheetOfPut 13 = .ok (.bipush 20, 2) := by decide +kernel
theorem dX8_sheetOfPut_15 : decode cX8_sheetOfPut 15 = .ok (.if_icmp .ge 13, 3) := by decide +kernel
theorem dX8_sheetOfPut_18 : decode cX8_sheetOfPut 18 = .ok (.aload_n 0, 1) := by decide +kernel
theorem dX8_sheetOfPut_19 : decode cX8_sheetOfPut 19 = .ok (.getfield 24, 3) := by decide +kernel
theorem dX8_sheetOfPut_22 : decode cX8_sheetOfPut 22 = .ok (.iload_n 1, 1) := by decide +kernel
theorem dX8_sheetOfPut_23 : decode cX8_sheetOfPut 23 = .ok (.iaload, 1) := by decide +kernel
theorem dX8_sheetOfPut_24 : decode cX8_sheetOfPut 24 = .ok (.iload_n 3, 1) := by decide +kernel
theorem dX8_sheetOfPut_25 : decode cX8_sheetOfPut 25 = .ok (.if_icmp .le 5, 3) := by decide +kernel
theorem dX8_sheetOfPut_28 : decode cX8_sheetOfPut 28 = .ok (.aconst_null, 1) := by decide +kernel
theorem dX8_sheetOfPut_29 : decode cX8_sheetOfPut 29 = .ok (.areturn, 1) := by decide +kernel
theorem dX8_sheetOfPut_30 : decode cX8_sheetOfPut 30 = .ok (.aload_n 0, 1) := by decide +kernel
theorem dX8_sheetOfPut_31 : decode cX8_sheetOfPut 31 = .ok (.getfield 21, 3) := by decide +kernel
theorem dX8_sheetOfPut_34 : decode cX8_sheetOfPut 34 = .ok (.iload_n 1, 1) := by decide +kernel
theorem dX8_sheetOfPut_35 : decode cX8_sheetOfPut 35 = .ok (.iaload, 1) := by decide +kernel
theorem dX8_sheetOfPut_36 : decode cX8_sheetOfPut 36 = .ok (.iconst (-1), 1) := by decide +kernel
theorem dX8_sheetOfPut_37 : decode cX8_sheetOfPut 37 = .ok (.if_icmp .eq 13, 3) := by decide +kernel
theorem dX8_sheetOfPut_40 : decode cX8_sheetOfPut 40 = .ok (.aload_n 0, 1) := by decide +kernel
theorem dX8_sheetOfPut_41 : decode cX8_sheetOfPut 41 = .ok (.getfield 21, 3) := by decide +kernel
theorem dX8_sheetOfPut_44 : decode cX8_sheetOfPut 44 = .ok (.iload_n 1, 1) := by decide +kernel
theorem dX8_sheetOfPut_45 : decode cX8_sheetOfPut 45 = .ok (.iaload, 1) := by decide +kernel
theorem dX8_sheetOfPut_46 : decode cX8_sheetOfPut 46 = .ok (.iload_n 2, 1) := by decide +kernel
theorem dX8_sheetOfPut_47 : decode cX8_sheetOfPut 47 = .ok (.if_icmp .ne 7, 3) := by decide +kernel
theorem dX8_sheetOfPut_50 : decode cX8_sheetOfPut 50 = .ok (.iconst 1, 1) := by decide +kernel
theorem dX8_sheetOfPut_51 : decode cX8_sheetOfPut 51 = .ok (.goto 4, 3) := by decide +kernel
theorem dX8_sheetOfPut_54 : decode cX8_sheetOfPut 54 = .ok (.iconst 0, 1) := by decide +kernel
theorem dX8_sheetOfPut_55 : decode cX8_sheetOfPut 55 = .ok (.istore 4, 2) := by decide +kernel
theorem dX8_sheetOfPut_57 : decode cX8_sheetOfPut 57 = .ok (.aload_n 0, 1) := by decide +kernel
theorem dX8_sheetOfPut_58 : decode cX8_sheetOfPut 58 = .ok (.getfield 17, 3) := by decide +kernel
theorem dX8_sheetOfPut_61 : decode cX8_sheetOfPut 61 = .ok (.iload_n 1, 1) := by decide +kernel
theorem dX8_sheetOfPut_62 : decode cX8_sheetOfPut 62 = .ok (.iaload, 1) := by decide +kernel
theorem dX8_sheetOfPut_63 : decode cX8_sheetOfPut 63 = .ok (.istore 5, 2) := by decide +kernel
theorem dX8_sheetOfPut_65 : decode cX8_sheetOfPut 65 = .ok (.iload 4, 2) := by decide +kernel
theorem dX8_sheetOfPut_67 : decode cX8_sheetOfPut 67 = .ok (.ifCond .eq 25, 3) := by decide +kernel
theorem dX8_sheetOfPut_70 : decode cX8_sheetOfPut 70 = .ok (.iload 5, 2) := by decide +kernel
theorem dX8_sheetOfPut_72 : decode cX8_sheetOfPut 72 = .ok (.ifCond .lt 20, 3) := by decide +kernel
theorem dX8_sheetOfPut_75 : decode cX8_sheetOfPut 75 = .ok (.iload 5, 2) := by decide +kernel
theorem dX8_sheetOfPut_77 : decode cX8_sheetOfPut 77 = .ok (.bipush 12, 2) := by decide +kernel
theorem dX8_sheetOfPut_79 : decode cX8_sheetOfPut 79 = .ok (.if_icmp .ge 13, 3) := by decide +kernel
theorem dX8_sheetOfPut_82 : decode cX8_sheetOfPut 82 = .ok (.aload_n 0, 1) := by decide +kernel
theorem dX8_sheetOfPut_83 : decode cX8_sheetOfPut 83 = .ok (.getfield 13, 3) := by decide +kernel
theorem dX8_sheetOfPut_86 : decode cX8_sheetOfPut 86 = .ok (.iload 5, 2) := by decide +kernel
theorem dX8_sheetOfPut_88 : decode cX8_sheetOfPut 88 = .ok (.aaload, 1) := by decide +kernel
theorem dX8_sheetOfPut_89 : decode cX8_sheetOfPut 89 = .ok (.goto 4, 3) := by decide +kernel
theorem dX8_sheetOfPut_92 : decode cX8_sheetOfPut 92 = .ok (.aconst_null, 1) := by decide +kernel
theorem dX8_sheetOfPut_93 : decode cX8_sheetOfPut 93 = .ok (.areturn, 1) := by decide +kernel
set_option maxRecDepth 20000 in
theorem ggX8_inForce_X8_sheetOfPut : GoodIn wsX8_inForce wsX8_sheetOfPut := goodIn_r _ [7, 1, 8, 9, 2, 10, 17, 18, 19, 20, 21, 22, 23, 24] (by decide +kernel) (by decide +kernel)
set_option maxRecDepth 20000 in
theorem gX8_inForce_X8_sheetOfPut : GoodIn wsX8_inForce (wsV RX8 40 RX8 yX8_sheetOfPut wsX8_sheetOfPut) := goodIn_app (goodIn_of _ (by decide +kernel)) ggX8_inForce_X8_sheetOfPut
set_option maxRecDepth 20000 in
theorem ggX8_inForce_X9_has : GoodIn wsX8_inForce wsX9_has := goodIn_r _ [15, 16, 25, 26, 27, 28] (by decide +kernel) (by decide +kernel)
set_option maxRecDepth 20000 in
theorem gX8_inForce_X9_has : GoodIn wsX8_inForce (wsV RX8 44 RX9 yX9_has wsX9_has) := goodIn_app (goodIn_of _ (by decide +kernel)) ggX8_inForce_X9_has
theorem dX8_inForce_0 : decode cX8_inForce 0 = .ok (.aload_n 0, 1) := by decide +kernel
theorem dX8_inForce_1 : decode cX8_inForce 1 = .ok (.getfield 37, 3) := by decide +kernel
theorem dX8_inForce_4 : decode cX8_inForce 4 = .ok (.iconst 1, 1) := by decide +kernel
theorem dX8_inForce_5 : decode cX8_inForce 5 = .ok (.isub, 1) := by decide +kernel
theorem dX8_inForce_6 : decode cX8_inForce 6 = .ok (.istore 4, 2) := by decide +kernel
theorem dX8_inForce_8 : decode cX8_inForce 8 = .ok (.iload 4, 2) := by decide +kernel
theorem dX8_inForce_10 : decode cX8_inForce 10 = .ok (.ifCond .lt 41, 3) := by decide +kernel
theorem dX8_inForce_13 : decode cX8_inForce 13 = .ok (.aload_n 0, 1) := by decide +kernel
theorem dX8_inForce_14 : decode cX8_inForce 14 = .ok (.iload 4, 2) := by decide +kernel
theorem dX8_inForce_16 : decode cX8_inForce 16 = .ok (.iload_n 2, 1) := by decide +kernel
theorem dX8_inForce_17 : decode cX8_inForce 17 = .ok (.iload_n 3, 1) := by decide +kernel
theorem dX8_inForce_18 : decode cX8_inForce 18 = .ok (.invokevirtual 40, 3) := by decide +kernel
theorem dX8_inForce_21 : decode cX8_inForce 21 = .ok (.astore 5, 2) := by decide +kernel
theorem dX8_inForce_23 : decode cX8_inForce 23 = .ok (.aload 5, 2) := by decide +kernel
theorem dX8_inForce_25 : decode cX8_inForce 25 = .ok (.ifnull 20, 3) := by decide +kernel
theorem dX8_inForce_28 : decode cX8_inForce 28 = .ok (.aload 5, 2) := by decide +kernel
theorem dX8_inForce_30 : decode cX8_inForce 30 = .ok (.iload_n 1, 1) := by decide +kernel
theorem dX8_inForce_31 : decode cX8_inForce 31 = .ok (.invokevirtual 44, 3) := by decide +kernel
theorem dX8_inForce_34 : decode cX8_inForce 34 = .ok (.ifCond .eq 11, 3) := by decide +kernel
theorem dX8_inForce_37 : decode cX8_inForce 37 = .ok (.aload_n 0, 1) := by decide +kernel
theorem dX8_inForce_38 : decode cX8_inForce 38 = .ok (.getfield 17, 3) := by decide +kernel
theorem dX8_inForce_41 : decode cX8_inForce 41 = .ok (.iload 4, 2) := by decide +kernel
theorem dX8_inForce_43 : decode cX8_inForce 43 = .ok (.iaload, 1) := by decide +kernel
theorem dX8_inForce_44 : decode cX8_inForce 44 = .ok (.ireturn, 1) := by decide +kernel
theorem dX8_inForce_45 : decode cX8_inForce 45 = .ok (.iinc 4 (-1), 3) := by decide +kernel
theorem dX8_inForce_48 : decode cX8_inForce 48 = .ok (.goto (-40), 3) := by decide +kernel
theorem dX8_inForce_51 : decode cX8_inForce 51 = .ok (.iconst (-1), 1) := by decide +kernel
theorem dX8_inForce_52 : decode cX8_inForce 52 = .ok (.ireturn, 1) := by decide +kernel
set_option maxRecDepth 20000 in
theorem ggX8_skips_X8_sheetOfPut : GoodIn wsX8_skips wsX8_sheetOfPut := goodIn_r _ [6, 1, 7, 8, 9, 10, 17, 18, 19, 20, 21, 22, 23, 24] (by decide +kernel) (by decide +kernel)
set_option maxRecDepth 20000 in
theorem gX8_skips_X8_sheetOfPut : GoodIn wsX8_skips (wsV RX8 40 RX8 yX8_sheetOfPut wsX8_sheetOfPut) := goodIn_app (goodIn_of _ (by decide +kernel)) ggX8_skips_X8_sheetOfPut
set_option maxRecDepth 20000 in
theorem ggX8_skips_X9_hasWord : GoodIn wsX8_skips wsX9_hasWord := goodIn_r _ [15, 16, 25, 26, 27, 28] (by decide +kernel) (by decide +kernel)
set_option maxRecDepth 20000 in
theorem gX8_skips_X9_hasWord : GoodIn wsX8_skips (wsV RX8 48 RX9 yX9_hasWord wsX9_hasWord) := goodIn_app (goodIn_of _ (by decide +kernel)) ggX8_skips_X9_hasWord
theorem dX8_skips_0 : decode cX8_skips 0 = .ok (.iconst 0, 1) := by decide +kernel
theorem dX8_skips_1 : decode cX8_skips 1 = .ok (.istore 5, 2) := by decide +kernel
theorem dX8_skips_3 : decode cX8_skips 3 = .ok (.iload 5, 2) := by decide +kernel
theorem dX8_skips_5 : decode cX8_skips 5 = .ok (.aload_n 0, 1) := by decide +kernel
theorem dX8_skips_6 : decode cX8_skips 6 = .ok (.getfield 37, 3) := by decide +kernel
theorem dX8_skips_9 : decode cX8_skips 9 = .ok (.if_icmp .ge 36, 3) := by decide +kernel
theorem dX8_skips_12 : decode cX8_skips 12 = .ok (.aload_n 0, 1) := by decide +kernel
theorem dX8_skips_13 : decode cX8_skips 13 = .ok (.iload 5, 2) := by decide +kernel
theorem dX8_skips_15 : decode cX8_skips 15 = .ok (.iload_n 3, 1) := by decide +kernel
theorem dX8_skips_16 : decode cX8_skips 16 = .ok (.iload 4, 2) := by decide +kernel
theorem dX8_skips_18 : decode cX8_skips 18 = .ok (.invokevirtual 40, 3) := by decide +kernel
theorem dX8_skips_21 : decode cX8_skips 21 = .ok (.astore 6, 2) := by decide +kernel
theorem dX8_skips_23 : decode cX8_skips 23 = .ok (.aload 6, 2) := by decide +kernel
theorem dX8_skips_25 : decode cX8_skips 25 = .ok (.ifnull 14, 3) := by decide +kernel
theorem dX8_skips_28 : decode cX8_skips 28 = .ok (.aload 6, 2) := by decide +kernel
theorem dX8_skips_30 : decode cX8_skips 30 = .ok (.lload_n 1, 1) := by decide +kernel
theorem dX8_skips_31 : decode cX8_skips 31 = .ok (.invokevirtual 48, 3) := by decide +kernel
theorem dX8_skips_34 : decode cX8_skips 34 = .ok (.ifCond .eq 5, 3) := by decide +kernel
theorem dX8_skips_37 : decode cX8_skips 37 = .ok (.iconst 1, 1) := by decide +kernel
theorem dX8_skips_38 : decode cX8_skips 38 = .ok (.ireturn, 1) := by decide +kernel
theorem dX8_skips_39 : decode cX8_skips 39 = .ok (.iinc 5 1, 3) := by decide +kernel
theorem dX8_skips_42 : decode cX8_skips 42 = .ok (.goto (-39), 3) := by decide +kernel
theorem dX8_skips_45 : decode cX8_skips 45 = .ok (.iconst 0, 1) := by decide +kernel
theorem dX8_skips_46 : decode cX8_skips 46 = .ok (.ireturn, 1) := by decide +kernel
set_option maxRecDepth 20000 in
theorem ggX8_forgetNames_J7_fill_53178 : GoodIn wsX8_forgetNames wsJ7_fill_53178 := goodIn_r _ [5] (by decide +kernel) (by decide +kernel)
set_option maxRecDepth 20000 in
theorem gX8_forgetNames_J7_fill_53178 : GoodIn wsX8_forgetNames (va_wsS RX8 52 yJ7_fill_53178 wsJ7_fill_53178) := goodIn_app (goodIn_of _ (by decide +kernel)) ggX8_forgetNames_J7_fill_53178
theorem dX8_forgetNames_0 : decode cX8_forgetNames 0 = .ok (.aload_n 0, 1) := by decide +kernel
theorem dX8_forgetNames_1 : decode cX8_forgetNames 1 = .ok (.getfield 27, 3) := by decide +kernel
theorem dX8_forgetNames_4 : decode cX8_forgetNames 4 = .ok (.iconst 0, 1) := by decide +kernel
theorem dX8_forgetNames_5 : decode cX8_forgetNames 5 = .ok (.invokestatic 52, 3) := by decide +kernel
theorem dX8_forgetNames_8 : decode cX8_forgetNames 8 = .ok (.return_, 1) := by decide +kernel
theorem dX8_name_0 : decode cX8_name 0 = .ok (.iload_n 1, 1) := by decide +kernel
theorem dX8_name_1 : decode cX8_name 1 = .ok (.ifCond .lt 16, 3) := by decide +kernel
theorem dX8_name_4 : decode cX8_name 4 = .ok (.iload_n 1, 1) := by decide +kernel
theorem dX8_name_5 : decode cX8_name 5 = .ok (.bipush 9, 2) := by decide +kernel
theorem dX8_name_7 : decode cX8_name 7 = .ok (.if_icmp .ge 10, 3) := by decide +kernel
theorem dX8_name_10 : decode cX8_name 10 = .ok (.aload_n 0, 1) := by decide +kernel
theorem dX8_name_11 : decode cX8_name 11 = .ok (.getfield 27, 3) := by decide +kernel
theorem dX8_name_14 : decode cX8_name 14 = .ok (.iload_n 1, 1) := by decide +kernel
theorem dX8_name_15 : decode cX8_name 15 = .ok (.iload_n 2, 1) := by decide +kernel
theorem dX8_name_16 : decode cX8_name 16 = .ok (.iastore, 1) := by decide +kernel
theorem dX8_name_17 : decode cX8_name 17 = .ok (.return_, 1) := by decide +kernel
set_option maxRecDepth 20000 in
theorem ggX8_valueOf_X8_inForce : GoodIn wsX8_valueOf wsX8_inForce := goodIn_r _ [7, 8, 9, 10, 11, 12, 6, 13, 14, 15, 2, 16, 17, 18, 19, 20, 21, 43, 44, 45, 46, 47, 48, 49, 50, 51, 52, 53, 54] (by decide +kernel) (by decide +kernel)
set_option maxRecDepth 20000 in
theorem gX8_valueOf_X8_inForce : GoodIn wsX8_valueOf (wsV RX8 61 RX8 yX8_inForce wsX8_inForce) := goodIn_app (goodIn_of _ (by decide +kernel)) ggX8_valueOf_X8_inForce
set_option maxRecDepth 20000 in
theorem ggX8_valueOf_X8_run : GoodIn wsX8_valueOf wsX8_run := goodIn_r _ [25, 26, 27, 28, 29, 30, 16, 17, 18, 19, 20, 21, 31, 32, 6, 33, 34, 35, 36, 37, 38, 39, 40, 41, 42, 51, 52, 53, 54, 43, 44, 45, 46, 47, 48, 49, 50] (by decide +kernel) (by decide +kernel)
set_option maxRecDepth 20000 in
theorem gX8_valueOf_X8_run : GoodIn wsX8_valueOf (wsV RX8 65 RX8 yX8_run wsX8_run) := goodIn_app (goodIn_of _ (by decide +kernel)) ggX8_valueOf_X8_run
theorem dX8_valueOf_0 : decode cX8_valueOf 0 = .ok (.iload_n 1, 1) := by decide +kernel
theorem dX8_valueOf_1 : decode cX8_valueOf 1 = .ok (.ifCond .lt 11, 3) := by decide +kernel
theorem dX8_valueOf_4 : decode cX8_valueOf 4 = .ok (.iload_n 1, 1) := by decide +kernel
theorem dX8_valueOf_5 : decode cX8_valueOf 5 = .ok (.getstatic 58, 3) := by decide +kernel
theorem dX8_valueOf_8 : decode cX8_valueOf 8 = .ok (.arraylength, 1) := by decide +kernel
theorem dX8_valueOf_9 : decode cX8_valueOf 9 = .ok (.if_icmp .lt 5, 3) := by decide +kernel
theorem dX8_valueOf_12 : decode cX8_valueOf 12 = .ok (.iconst 0, 1) := by decide +kernel
theorem dX8_valueOf_13 : decode cX8_valueOf 13 = .ok (.ireturn, 1) := by decide +kernel
theorem dX8_valueOf_14 : decode cX8_valueOf 14 = .ok (.aload_n 0, 1) := by decide +kernel
theorem dX8_valueOf_15 : decode cX8_valueOf 15 = .ok (.iload_n 1, 1) := by decide +kernel
theorem dX8_valueOf_16 : decode cX8_valueOf 16 = .ok (.iload_n 2, 1) := by decide +kernel
theorem dX8_valueOf_17 : decode cX8_valueOf 17 = .ok (.iload_n 3, 1) := by decide +kernel
theorem dX8_valueOf_18 : decode cX8_valueOf 18 = .ok (.invokevirtual 61, 3) := by decide +kernel
theorem dX8_valueOf_21 : decode cX8_valueOf 21 = .ok (.istore 4, 2) := by decide +kernel
theorem dX8_valueOf_23 : decode cX8_valueOf 23 = .ok (.iload 4, 2) := by decide +kernel
theorem dX8_valueOf_25 : decode cX8_valueOf 25 = .ok (.ifCond .lt 20, 3) := by decide +kernel
theorem dX8_valueOf_28 : decode cX8_valueOf 28 = .ok (.iload 4, 2) := by decide +kernel
theorem dX8_valueOf_30 : decode cX8_valueOf 30 = .ok (.bipush 12, 2) := by decide +kernel
theorem dX8_valueOf_32 : decode cX8_valueOf 32 = .ok (.if_icmp .ge 13, 3) := by decide +kernel
theorem dX8_valueOf_35 : decode cX8_valueOf 35 = .ok (.aload_n 0, 1) := by decide +kernel
theorem dX8_valueOf_36 : decode cX8_valueOf 36 = .ok (.getfield 13, 3) := by decide +kernel
theorem dX8_valueOf_39 : decode cX8_valueOf 39 = .ok (.iload 4, 2) := by decide +kernel
theorem dX8_valueOf_41 : decode cX8_valueOf 41 = .ok (.aaload, 1) := by decide +kernel
theorem dX8_valueOf_42 : decode cX8_valueOf 42 = .ok (.goto 4, 3) := by decide +kernel
theorem dX8_valueOf_45 : decode cX8_valueOf 45 = .ok (.aconst_null, 1) := by decide +kernel
theorem dX8_valueOf_46 : decode cX8_valueOf 46 = .ok (.astore 5, 2) := by decide +kernel
theorem dX8_valueOf_48 : decode cX8_valueOf 48 = .ok (.aload 5, 2) := by decide +kernel
theorem dX8_valueOf_50 : decode cX8_valueOf 50 = .ok (.ifnonnull 11, 3) := by decide +kernel
theorem dX8_valueOf_53 : decode cX8_valueOf 53 = .ok (.getstatic 58, 3) := by decide +kernel
theorem dX8_valueOf_56 : decode cX8_valueOf 56 = .ok (.iload_n 1, 1) := by decide +kernel
theorem dX8_valueOf_57 : decode cX8_valueOf 57 = .ok (.iaload, 1) := by decide +kernel
theorem dX8_valueOf_58 : decode cX8_valueOf 58 = .ok (.goto 10, 3) := by decide +kernel
theorem dX8_valueOf_61 : decode cX8_valueOf 61 = .ok (.aload_n 0, 1) := by decide +kernel
theorem dX8_valueOf_62 : decode cX8_valueOf 62 = .ok (.aload 5, 2) := by decide +kernel
theorem dX8_valueOf_64 : decode cX8_valueOf 64 = .ok (.iload_n 1, 1) := by decide +kernel
theorem dX8_valueOf_65 : decode cX8_valueOf 65 = .ok (.invokevirtual 65, 3) := by decide +kernel
theorem dX8_valueOf_68 : decode cX8_valueOf 68 = .ok (.ireturn, 1) := by decide +kernel
set_option maxRecDepth 20000 in
theorem ggX8_run_X9_has : GoodIn wsX8_run wsX9_has := goodIn_r _ [10, 11, 25, 26, 27, 28] (by decide +kernel) (by decide +kernel)
set_option maxRecDepth 20000 in
theorem gX8_run_X9_has : GoodIn wsX8_run (wsV RX8 44 RX9 yX9_has wsX9_has) := goodIn_app (goodIn_of _ (by decide +kernel)) ggX8_run_X9_has
set_option maxRecDepth 20000 in
theorem ggX8_run_X8_combine : GoodIn wsX8_run wsX8_combine := goodIn_r _ [15, 16, 17, 18, 19, 20, 21, 22, 23, 24] (by decide +kernel) (by decide +kernel)
set_option maxRecDepth 20000 in
theorem gX8_run_X8_combine : GoodIn wsX8_run (va_wsS RX8 78 yX8_combine wsX8_combine) := goodIn_app (goodIn_of _ (by decide +kernel)) ggX8_run_X8_combine
theorem dX8_run_0 : decode cX8_run 0 = .ok (.aload_n 1, 1) := by decide +kernel
theorem dX8_run_1 : decode cX8_run 1 = .ok (.iload_n 2, 1) := by decide +kernel
theorem dX8_run_2 : decode cX8_run 2 = .ok (.invokevirtual 44, 3) := by decide +kernel
theorem dX8_run_5 : decode cX8_run 5 = .ok (.ifCond .eq 12, 3) := by decide +kernel
theorem dX8_run_8 : decode cX8_run 8 = .ok (.iload_n 2, 1) := by decide +kernel
theorem dX8_run_9 : decode cX8_run 9 = .ok (.aload_n 1, 1) := by decide +kernel
theorem dX8_run_10 : decode cX8_run 10 = .ok (.getfield 69, 3) := by decide +kernel
theorem dX8_run_13 : decode cX8_run 13 = .ok (.arraylength, 1) := by decide +kernel
theorem dX8_run_14 : decode cX8_run 14 = .ok (.if_icmp .lt 5, 3) := by decide +kernel
theorem dX8_run_17 : decode cX8_run 17 = .ok (.iconst 0, 1) := by decide +kernel
theorem dX8_run_18 : decode cX8_run 18 = .ok (.ireturn, 1) := by decide +kernel
theorem dX8_run_19 : decode cX8_run 19 = .ok (.iconst 0, 1) := by decide +kernel
theorem dX8_run_20 : decode cX8_run 20 = .ok (.istore_n 3, 1) := by decide +kernel
theorem dX8_run_21 : decode cX8_run 21 = .ok (.aload_n 1, 1) := by decide +kernel
theorem dX8_run_22 : decode cX8_run 22 = .ok (.getfield 72, 3) := by decide +kernel
theorem dX8_run_25 : decode cX8_run 25 = .ok (.iload_n 2, 1) := by decide +kernel
theorem dX8_run_26 : decode cX8_run 26 = .ok (.iaload, 1) := by decide +kernel
theorem dX8_run_27 : decode cX8_run 27 = .ok (.istore 4, 2) := by decide +kernel
theorem dX8_run_29 : decode cX8_run 29 = .ok (.iload 4, 2) := by decide +kernel
theorem dX8_run_31 : decode cX8_run 31 = .ok (.ifCond .lt 180, 3) := by decide +kernel
theorem dX8_run_34 : decode cX8_run 34 = .ok (.iload 4, 2) := by decide +kernel
theorem dX8_run_36 : decode cX8_run 36 = .ok (.aload_n 1, 1) := by decide +kernel
theorem dX8_run_37 : decode cX8_run 37 = .ok (.getfield 69, 3) := by decide +kernel
theorem dX8_run_40 : decode cX8_run 40 = .ok (.iload_n 2, 1) := by decide +kernel
theorem dX8_run_41 : decode cX8_run 41 = .ok (.iaload, 1) := by decide +kernel
theorem dX8_run_42 : decode cX8_run 42 = .ok (.if_icmp .ge 169, 3) := by decide +kernel
theorem dX8_run_45 : decode cX8_run 45 = .ok (.iload 4, 2) := by decide +kernel
theorem dX8_run_47 : decode cX8_run 47 = .ok (.aload_n 1, 1) := by decide +kernel
theorem dX8_run_48 : decode cX8_run 48 = .ok (.getfield 75, 3) := by decide +kernel
theorem dX8_run_51 : decode cX8_run 51 = .ok (.arraylength, 1) := by decide +kernel
theorem dX8_run_52 : decode cX8_run 52 = .ok (.if_icmp .ge 159, 3) := by decide +kernel
theorem dX8_run_55 : decode cX8_run 55 = .ok (.aload_n 1, 1) := by decide +kernel
theorem dX8_run_56 : decode cX8_run 56 = .ok (.getfield 75, 3) := by decide +kernel
theorem dX8_run_59 : decode cX8_run 59 = .ok (.iload 4, 2) := by decide +kernel
theorem dX8_run_61 : decode cX8_run 61 = .ok (.iaload, 1) := by decide +kernel
theorem dX8_run_62 : decode cX8_run 62 = .ok (.istore 5, 2) := by decide +kernel
theorem dX8_run_64 : decode cX8_run 64 = .ok (.iconst (-1), 1) := by decide +kernel
theorem dX8_run_65 : decode cX8_run 65 = .ok (.iload 5, 2) := by decide +kernel
theorem dX8_run_67 : decode cX8_run 67 = .ok (.isub, 1) := by decide +kernel
theorem dX8_run_68 : decode cX8_run 68 = .ok (.istore 6, 2) := by decide +kernel
theorem dX8_run_70 : decode cX8_run 70 = .ok (.iload 5, 2) := by decide +kernel
theorem dX8_run_72 : decode cX8_run 72 = .ok (.ifCond .lt 23, 3) := by decide +kernel
theorem dX8_run_75 : decode cX8_run 75 = .ok (.iload_n 3, 1) := by decide +kernel
theorem dX8_run_76 : decode cX8_run 76 = .ok (.bipush 64, 2) := by decide +kernel
theorem dX8_run_78 : decode cX8_run 78 = .ok (.if_icmp .ge 17, 3) := by decide +kernel
theorem dX8_run_81 : decode cX8_run 81 = .ok (.aload_n 0, 1) := by decide +kernel
theorem dX8_run_82 : decode cX8_run 82 = .ok (.getfield 30, 3) := by decide +kernel
