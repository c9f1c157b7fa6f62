theorem dX0_init_0 : decode cX0_init 0 = .ok (.aload_n 0, 1) := by decide +kernel
theorem dX0_init_1 : decode cX0_init 1 = .ok (.invokespecial 3, 3) := by decide +kernel
theorem dX0_init_4 : decode cX0_init 4 = .ok (.aload_n 0, 1) := by decide +kernel
theorem dX0_init_5 : decode cX0_init 5 = .ok (.iconst (-1), 1) := by decide +kernel
theorem dX0_init_6 : decode cX0_init 6 = .ok (.putfield 9, 3) := by decide +kernel
theorem dX0_init_9 : decode cX0_init 9 = .ok (.aload_n 0, 1) := by decide +kernel
theorem dX0_init_10 : decode cX0_init 10 = .ok (.iconst (-1), 1) := by decide +kernel
theorem dX0_init_11 : decode cX0_init 11 = .ok (.putfield 15, 3) := by decide +kernel
theorem dX0_init_14 : decode cX0_init 14 = .ok (.aload_n 0, 1) := by decide +kernel
theorem dX0_init_15 : decode cX0_init 15 = .ok (.iconst (-1), 1) := by decide +kernel
theorem dX0_init_16 : decode cX0_init 16 = .ok (.putfield 18, 3) := by decide +kernel
theorem dX0_init_19 : decode cX0_init 19 = .ok (.aload_n 0, 1) := by decide +kernel
theorem dX0_init_20 : decode cX0_init 20 = .ok (.iconst (-1), 1) := by decide +kernel
theorem dX0_init_21 : decode cX0_init 21 = .ok (.putfield 21, 3) := by decide +kernel
theorem dX0_init_24 : decode cX0_init 24 = .ok (.aload_n 0, 1) := by decide +kernel
theorem dX0_init_25 : decode cX0_init 25 = .ok (.iload_n 1, 1) := by decide +kernel
theorem dX0_init_26 : decode cX0_init 26 = .ok (.putfield 24, 3) := by decide +kernel
theorem dX0_init_29 : decode cX0_init 29 = .ok (.aload_n 0, 1) := by decide +kernel
theorem dX0_init_30 : decode cX0_init 30 = .ok (.iload_n 2, 1) := by decide +kernel
theorem dX0_init_31 : decode cX0_init 31 = .ok (.putfield 27, 3) := by decide +kernel
theorem dX0_init_34 : decode cX0_init 34 = .ok (.aload_n 0, 1) := by decide +kernel
theorem dX0_init_35 : decode cX0_init 35 = .ok (.iconst 0, 1) := by decide +kernel
theorem dX0_init_36 : decode cX0_init 36 = .ok (.iload_n 3, 1) := by decide +kernel
theorem dX0_init_37 : decode cX0_init 37 = .ok (.invokestatic 30, 3) := by decide +kernel
theorem dX0_init_40 : decode cX0_init 40 = .ok (.newarray .byte, 2) := by decide +kernel
theorem dX0_init_42 : decode cX0_init 42 = .ok (.putfield 36, 3) := by decide +kernel
theorem dX0_init_45 : decode cX0_init 45 = .ok (.return_, 1) := by decide +kernel
theorem dX0_byteOf_0 : decode cX0_byteOf 0 = .ok (.iload_n 3, 1) := by decide +kernel
theorem dX0_byteOf_1 : decode cX0_byteOf 1 = .ok (.iconst 4, 1) := by decide +kernel
theorem dX0_byteOf_2 : decode cX0_byteOf 2 = .ok (.if_icmp .ge 7, 3) := by decide +kernel
theorem dX0_byteOf_5 : decode cX0_byteOf 5 = .ok (.iload_n 0, 1) := by decide +kernel
theorem dX0_byteOf_6 : decode cX0_byteOf 6 = .ok (.goto 14, 3) := by decide +kernel
theorem dX0_byteOf_9 : decode cX0_byteOf 9 = .ok (.iload_n 3, 1) := by decide +kernel
theorem dX0_byteOf_10 : decode cX0_byteOf 10 = .ok (.bipush 8, 2) := by decide +kernel
theorem dX0_byteOf_12 : decode cX0_byteOf 12 = .ok (.if_icmp .ge 7, 3) := by decide +kernel
theorem dX0_byteOf_15 : decode cX0_byteOf 15 = .ok (.iload_n 1, 1) := by decide +kernel
theorem dX0_byteOf_16 : decode cX0_byteOf 16 = .ok (.goto 4, 3) := by decide +kernel
theorem dX0_byteOf_19 : decode cX0_byteOf 19 = .ok (.iload_n 2, 1) := by decide +kernel
theorem dX0_byteOf_20 : decode cX0_byteOf 20 = .ok (.istore 4, 2) := by decide +kernel
theorem dX0_byteOf_22 : decode cX0_byteOf 22 = .ok (.iload 4, 2) := by decide +kernel
theorem dX0_byteOf_24 : decode cX0_byteOf 24 = .ok (.bipush 24, 2) := by decide +kernel
theorem dX0_byteOf_26 : decode cX0_byteOf 26 = .ok (.bipush 8, 2) := by decide +kernel
theorem dX0_byteOf_28 : decode cX0_byteOf 28 = .ok (.iload_n 3, 1) := by decide +kernel
theorem dX0_byteOf_29 : decode cX0_byteOf 29 = .ok (.iconst 3, 1) := by decide +kernel
theorem dX0_byteOf_30 : decode cX0_byteOf 30 = .ok (.iand, 1) := by decide +kernel
theorem dX0_byteOf_31 : decode cX0_byteOf 31 = .ok (.imul, 1) := by decide +kernel
theorem dX0_byteOf_32 : decode cX0_byteOf 32 = .ok (.isub, 1) := by decide +kernel
theorem dX0_byteOf_33 : decode cX0_byteOf 33 = .ok (.iushr, 1) := by decide +kernel
theorem dX0_byteOf_34 : decode cX0_byteOf 34 = .ok (.sipush 255, 3) := by decide +kernel
theorem dX0_byteOf_37 : decode cX0_byteOf 37 = .ok (.iand, 1) := by decide +kernel
theorem dX0_byteOf_38 : decode cX0_byteOf 38 = .ok (.ireturn, 1) := by decide +kernel
theorem dX0_isDigit_0 : decode cX0_isDigit 0 = .ok (.iload_n 0, 1) := by decide +kernel
theorem dX0_isDigit_1 : decode cX0_isDigit 1 = .ok (.bipush 48, 2) := by decide +kernel
theorem dX0_isDigit_3 : decode cX0_isDigit 3 = .ok (.if_icmp .lt 13, 3) := by decide +kernel
theorem dX0_isDigit_6 : decode cX0_isDigit 6 = .ok (.iload_n 0, 1) := by decide +kernel
theorem dX0_isDigit_7 : decode cX0_isDigit 7 = .ok (.bipush 57, 2) := by decide +kernel
theorem dX0_isDigit_9 : decode cX0_isDigit 9 = .ok (.if_icmp .gt 7, 3) := by decide +kernel
theorem dX0_isDigit_12 : decode cX0_isDigit 12 = .ok (.iconst 1, 1) := by decide +kernel
theorem dX0_isDigit_13 : decode cX0_isDigit 13 = .ok (.goto 4, 3) := by decide +kernel
theorem dX0_isDigit_16 : decode cX0_isDigit 16 = .ok (.iconst 0, 1) := by decide +kernel
theorem dX0_isDigit_17 : decode cX0_isDigit 17 = .ok (.ireturn, 1) := by decide +kernel
theorem dX0_isMark_0 : decode cX0_isMark 0 = .ok (.iload_n 0, 1) := by decide +kernel
theorem dX0_isMark_1 : decode cX0_isMark 1 = .ok (.bipush 97, 2) := by decide +kernel
theorem dX0_isMark_3 : decode cX0_isMark 3 = .ok (.if_icmp .lt 9, 3) := by decide +kernel
theorem dX0_isMark_6 : decode cX0_isMark 6 = .ok (.iload_n 0, 1) := by decide +kernel
theorem dX0_isMark_7 : decode cX0_isMark 7 = .ok (.bipush 122, 2) := by decide +kernel
theorem dX0_isMark_9 : decode cX0_isMark 9 = .ok (.if_icmp .le 10, 3) := by decide +kernel
theorem dX0_isMark_12 : decode cX0_isMark 12 = .ok (.iload_n 0, 1) := by decide +kernel
theorem dX0_isMark_13 : decode cX0_isMark 13 = .ok (.invokestatic 40, 3) := by decide +kernel
theorem dX0_isMark_16 : decode cX0_isMark 16 = .ok (.ifCond .eq 7, 3) := by decide +kernel
theorem dX0_isMark_19 : decode cX0_isMark 19 = .ok (.iconst 1, 1) := by decide +kernel
theorem dX0_isMark_20 : decode cX0_isMark 20 = .ok (.goto 4, 3) := by decide +kernel
theorem dX0_isMark_23 : decode cX0_isMark 23 = .ok (.iconst 0, 1) := by decide +kernel
theorem dX0_isMark_24 : decode cX0_isMark 24 = .ok (.ireturn, 1) := by decide +kernel
theorem dX0_headingSize_0 : decode cX0_headingSize 0 = .ok (.iconst 0, 1) := by decide +kernel
theorem dX0_headingSize_1 : decode cX0_headingSize 1 = .ok (.istore_n 3, 1) := by decide +kernel
theorem dX0_headingSize_2 : decode cX0_headingSize 2 = .ok (.bipush 32, 2) := by decide +kernel
theorem dX0_headingSize_4 : decode cX0_headingSize 4 = .ok (.istore 4, 2) := by decide +kernel
theorem dX0_headingSize_6 : decode cX0_headingSize 6 = .ok (.iconst 0, 1) := by decide +kernel
theorem dX0_headingSize_7 : decode cX0_headingSize 7 = .ok (.istore 5, 2) := by decide +kernel
theorem dX0_headingSize_9 : decode cX0_headingSize 9 = .ok (.iload 5, 2) := by decide +kernel
theorem dX0_headingSize_11 : decode cX0_headingSize 11 = .ok (.bipush 12, 2) := by decide +kernel
theorem dX0_headingSize_13 : decode cX0_headingSize 13 = .ok (.if_icmp .ge 76, 3) := by decide +kernel
theorem dX0_headingSize_16 : decode cX0_headingSize 16 = .ok (.iload_n 0, 1) := by decide +kernel
theorem dX0_headingSize_17 : decode cX0_headingSize 17 = .ok (.iload_n 1, 1) := by decide +kernel
theorem dX0_headingSize_18 : decode cX0_headingSize 18 = .ok (.iload_n 2, 1) := by decide +kernel
theorem dX0_headingSize_19 : decode cX0_headingSize 19 = .ok (.iload 5, 2) := by decide +kernel
theorem dX0_headingSize_21 : decode cX0_headingSize 21 = .ok (.invokestatic 44, 3) := by decide +kernel
theorem dX0_headingSize_24 : decode cX0_headingSize 24 = .ok (.istore 6, 2) := by decide +kernel
theorem dX0_headingSize_26 : decode cX0_headingSize 26 = .ok (.iload 6, 2) := by decide +kernel
theorem dX0_headingSize_28 : decode cX0_headingSize 28 = .ok (.ifCond .ne 6, 3) := by decide +kernel
theorem dX0_headingSize_31 : decode cX0_headingSize 31 = .ok (.goto 52, 3) := by decide +kernel
theorem dX0_headingSize_34 : decode cX0_headingSize 34 = .ok (.iload 6, 2) := by decide +kernel
theorem dX0_headingSize_36 : decode cX0_headingSize 36 = .ok (.invokestatic 48, 3) := by decide +kernel
theorem dX0_headingSize_39 : decode cX0_headingSize 39 = .ok (.ifCond .ne 17, 3) := by decide +kernel
theorem dX0_headingSize_42 : decode cX0_headingSize 42 = .ok (.iload 6, 2) := by decide +kernel
theorem dX0_headingSize_44 : decode cX0_headingSize 44 = .ok (.bipush 32, 2) := by decide +kernel
theorem dX0_headingSize_46 : decode cX0_headingSize 46 = .ok (.if_icmp .ne 14, 3) := by decide +kernel
theorem dX0_headingSize_49 : decode cX0_headingSize 49 = .ok (.iload 4, 2) := by decide +kernel
theorem dX0_headingSize_51 : decode cX0_headingSize 51 = .ok (.bipush 32, 2) := by decide +kernel
theorem dX0_headingSize_53 : decode cX0_headingSize 53 = .ok (.if_icmp .eq 7, 3) := by decide +kernel
theorem dX0_headingSize_56 : decode cX0_headingSize 56 = .ok (.iconst 1, 1) := by decide +kernel
theorem dX0_headingSize_57 : decode cX0_headingSize 57 = .ok (.goto 4, 3) := by decide +kernel
theorem dX0_headingSize_60 : decode cX0_headingSize 60 = .ok (.iconst 0, 1) := by decide +kernel
theorem dX0_headingSize_61 : decode cX0_headingSize 61 = .ok (.istore 7, 2) := by decide +kernel
theorem dX0_headingSize_63 : decode cX0_headingSize 63 = .ok (.iload 7, 2) := by decide +kernel
theorem dX0_headingSize_65 : decode cX0_headingSize 65 = .ok (.ifCond .eq 9, 3) := by decide +kernel
theorem dX0_headingSize_68 : decode cX0_headingSize 68 = .ok (.iload_n 3, 1) := by decide +kernel
theorem dX0_headingSize_69 : decode cX0_headingSize 69 = .ok (.iload 5, 2) := by decide +kernel
theorem dX0_headingSize_71 : decode cX0_headingSize 71 = .ok (.if_icmp .ge 5, 3) := by decide +kernel
theorem dX0_headingSize_74 : decode cX0_headingSize 74 = .ok (.iconst (-1), 1) := by decide +kernel
theorem dX0_headingSize_75 : decode cX0_headingSize 75 = .ok (.ireturn, 1) := by decide +kernel
theorem dX0_headingSize_76 : decode cX0_headingSize 76 = .ok (.iload 6, 2) := by decide +kernel
theorem dX0_headingSize_78 : decode cX0_headingSize 78 = .ok (.istore 4, 2) := by decide +kernel
theorem dX0_headingSize_80 : decode cX0_headingSize 80 = .ok (.iinc 3 1, 3) := by decide +kernel
theorem dX0_headingSize_83 : decode cX0_headingSize 83 = .ok (.iinc 5 1, 3) := by decide +kernel
theorem dX0_headingSize_86 : decode cX0_headingSize 86 = .ok (.goto (-77), 3) := by decide +kernel
theorem dX0_headingSize_89 : decode cX0_headingSize 89 = .ok (.iload 4, 2) := by decide +kernel
theorem dX0_headingSize_91 : decode cX0_headingSize 91 = .ok (.bipush 32, 2) := by decide +kernel
theorem dX0_headingSize_93 : decode cX0_headingSize 93 = .ok (.if_icmp .ne 7, 3) := by decide +kernel
theorem dX0_headingSize_96 : decode cX0_headingSize 96 = .ok (.iconst (-1), 1) := by decide +kernel
theorem dX0_headingSize_97 : decode cX0_headingSize 97 = .ok (.goto 4, 3) := by decide +kernel
theorem dX0_headingSize_100 : decode cX0_headingSize 100 = .ok (.iload_n 3, 1) := by decide +kernel
theorem dX0_headingSize_101 : decode cX0_headingSize 101 = .ok (.ireturn, 1) := by decide +kernel
theorem dX0_readHeading_0 : decode cX0_readHeading 0 = .ok (.iconst 0, 1) := by decide +kernel
theorem dX0_readHeading_1 : decode cX0_readHeading 1 = .ok (.istore 4, 2) := by decide +kernel
theorem dX0_readHeading_3 : decode cX0_readHeading 3 = .ok (.iload 4, 2) := by decide +kernel
theorem dX0_readHeading_5 : decode cX0_readHeading 5 = .ok (.aload_n 0, 1) := by decide +kernel
theorem dX0_readHeading_6 : decode cX0_readHeading 6 = .ok (.getfield 36, 3) := by decide +kernel
theorem dX0_readHeading_9 : decode cX0_readHeading 9 = .ok (.arraylength, 1) := by decide +kernel
theorem dX0_readHeading_10 : decode cX0_readHeading 10 = .ok (.if_icmp .ge 25, 3) := by decide +kernel
theorem dX0_readHeading_13 : decode cX0_readHeading 13 = .ok (.aload_n 0, 1) := by decide +kernel
theorem dX0_readHeading_14 : decode cX0_readHeading 14 = .ok (.getfield 36, 3) := by decide +kernel
theorem dX0_readHeading_17 : decode cX0_readHeading 17 = .ok (.iload 4, 2) := by decide +kernel
theorem dX0_readHeading_19 : decode cX0_readHeading 19 = .ok (.iload_n 1, 1) := by decide +kernel
theorem dX0_readHeading_20 : decode cX0_readHeading 20 = .ok (.iload_n 2, 1) := by decide +kernel
theorem dX0_readHeading_21 : decode cX0_readHeading 21 = .ok (.iload_n 3, 1) := by decide +kernel
theorem dX0_readHeading_22 : decode cX0_readHeading 22 = .ok (.iload 4, 2) := by decide +kernel
theorem dX0_readHeading_24 : decode cX0_readHeading 24 = .ok (.invokestatic 44, 3) := by decide +kernel
theorem dX0_readHeading_27 : decode cX0_readHeading 27 = .ok (.i2b, 1) := by decide +kernel
theorem dX0_readHeading_28 : decode cX0_readHeading 28 = .ok (.bastore, 1) := by decide +kernel
theorem dX0_readHeading_29 : decode cX0_readHeading 29 = .ok (.iinc 4 1, 3) := by decide +kernel
theorem dX0_readHeading_32 : decode cX0_readHeading 32 = .ok (.goto (-29), 3) := by decide +kernel
theorem dX0_readHeading_35 : decode cX0_readHeading 35 = .ok (.iconst 0, 1) := by decide +kernel
theorem dX0_readHeading_36 : decode cX0_readHeading 36 = .ok (.istore 4, 2) := by decide +kernel
theorem dX0_readHeading_38 : decode cX0_readHeading 38 = .ok (.iload 4, 2) := by decide +kernel
theorem dX0_readHeading_40 : decode cX0_readHeading 40 = .ok (.aload_n 0, 1) := by decide +kernel
theorem dX0_readHeading_41 : decode cX0_readHeading 41 = .ok (.getfield 36, 3) := by decide +kernel
theorem dX0_readHeading_44 : decode cX0_readHeading 44 = .ok (.arraylength, 1) := by decide +kernel
theorem dX0_readHeading_45 : decode cX0_readHeading 45 = .ok (.if_icmp .ge 49, 3) := by decide +kernel
theorem dX0_readHeading_48 : decode cX0_readHeading 48 = .ok (.aload_n 0, 1) := by decide +kernel
theorem dX0_readHeading_49 : decode cX0_readHeading 49 = .ok (.getfield 36, 3) := by decide +kernel
theorem dX0_readHeading_52 : decode cX0_readHeading 52 = .ok (.iload 4, 2) := by decide +kernel
theorem dX0_readHeading_54 : decode cX0_readHeading 54 = .ok (.baload, 1) := by decide +kernel
theorem dX0_readHeading_55 : decode cX0_readHeading 55 = .ok (.bipush 32, 2) := by decide +kernel
theorem dX0_readHeading_57 : decode cX0_readHeading 57 = .ok (.if_icmp .eq 37, 3) := by decide +kernel
theorem dX0_readHeading_60 : decode cX0_readHeading 60 = .ok (.aload_n 0, 1) := by decide +kernel
theorem dX0_readHeading_61 : decode cX0_readHeading 61 = .ok (.aload_n 0, 1) := by decide +kernel
theorem dX0_readHeading_62 : decode cX0_readHeading 62 = .ok (.getfield 51, 3) := by decide +kernel
theorem dX0_readHeading_65 : decode cX0_readHeading 65 = .ok (.bipush 8, 2) := by decide +kernel
theorem dX0_readHeading_67 : decode cX0_readHeading 67 = .ok (.lshl, 1) := by decide +kernel
theorem dX0_readHeading_68 : decode cX0_readHeading 68 = .ok (.aload_n 0, 1) := by decide +kernel
theorem dX0_readHeading_69 : decode cX0_readHeading 69 = .ok (.getfield 36, 3) := by decide +kernel
theorem dX0_readHeading_72 : decode cX0_readHeading 72 = .ok (.iload 4, 2) := by decide +kernel
theorem dX0_readHeading_74 : decode cX0_readHeading 74 = .ok (.baload, 1) := by decide +kernel
theorem dX0_readHeading_75 : decode cX0_readHeading 75 = .ok (.i2l, 1) := by decide +kernel
theorem dX0_readHeading_76 : decode cX0_readHeading 76 = .ok (.lor, 1) := by decide +kernel
theorem dX0_readHeading_77 : decode cX0_readHeading 77 = .ok (.putfield 51, 3) := by decide +kernel
theorem dX0_readHeading_80 : decode cX0_readHeading 80 = .ok (.aload_n 0, 1) := by decide +kernel
theorem dX0_readHeading_81 : decode cX0_readHeading 81 = .ok (.iload 4, 2) := by decide +kernel
theorem dX0_readHeading_83 : decode cX0_readHeading 83 = .ok (.iconst 2, 1) := by decide +kernel
theorem dX0_readHeading_84 : decode cX0_readHeading 84 = .ok (.iadd, 1) := by decide +kernel
theorem dX0_readHeading_85 : decode cX0_readHeading 85 = .ok (.putfield 55, 3) := by decide +kernel
theorem dX0_readHeading_88 : decode cX0_readHeading 88 = .ok (.iinc 4 1, 3) := by decide +kernel
theorem dX0_readHeading_91 : decode cX0_readHeading 91 = .ok (.goto (-53), 3) := by decide +kernel
theorem dX0_readHeading_94 : decode cX0_readHeading 94 = .ok (.aload_n 0, 1) := by decide +kernel
theorem dX0_readHeading_95 : decode cX0_readHeading 95 = .ok (.getfield 55, 3) := by decide +kernel
theorem dX0_readHeading_98 : decode cX0_readHeading 98 = .ok (.aload_n 0, 1) := by decide +kernel
theorem dX0_readHeading_99 : decode cX0_readHeading 99 = .ok (.getfield 36, 3) := by decide +kernel
theorem dX0_readHeading_102 : decode cX0_readHeading 102 = .ok (.arraylength, 1) := by decide +kernel
theorem dX0_readHeading_103 : decode cX0_readHeading 103 = .ok (.if_icmp .gt 12, 3) := by decide +kernel
theorem dX0_readHeading_106 : decode cX0_readHeading 106 = .ok (.aload_n 0, 1) := by decide +kernel
theorem dX0_readHeading_107 : decode cX0_readHeading 107 = .ok (.getfield 55, 3) := by decide +kernel
theorem dX0_readHeading_110 : decode cX0_readHeading 110 = .ok (.bipush 9, 2) := by decide +kernel
theorem dX0_readHeading_112 : decode cX0_readHeading 112 = .ok (.if_icmp .le 8, 3) := by decide +kernel
theorem dX0_readHeading_115 : decode cX0_readHeading 115 = .ok (.aload_n 0, 1) := by decide +kernel
theorem dX0_readHeading_116 : decode cX0_readHeading 116 = .ok (.iconst 0, 1) := by decide +kernel
theorem dX0_readHeading_117 : decode cX0_readHeading 117 = .ok (.putfield 55, 3) := by decide +kernel
theorem dX0_readHeading_120 : decode cX0_readHeading 120 = .ok (.return_, 1) := by decide +kernel
theorem dX0_byteAt_0 : decode cX0_byteAt 0 = .ok (.iload_n 1, 1) := by decide +kernel
theorem dX0_byteAt_1 : decode cX0_byteAt 1 = .ok (.ifCond .lt 21, 3) := by decide +kernel
theorem dX0_byteAt_4 : decode cX0_byteAt 4 = .ok (.iload_n 1, 1) := by decide +kernel
theorem dX0_byteAt_5 : decode cX0_byteAt 5 = .ok (.aload_n 0, 1) := by decide +kernel
theorem dX0_byteAt_6 : decode cX0_byteAt 6 = .ok (.getfield 36, 3) := by decide +kernel
theorem dX0_byteAt_9 : decode cX0_byteAt 9 = .ok (.arraylength, 1) := by decide +kernel
theorem dX0_byteAt_10 : decode cX0_byteAt 10 = .ok (.if_icmp .ge 12, 3) := by decide +kernel
theorem dX0_byteAt_13 : decode cX0_byteAt 13 = .ok (.aload_n 0, 1) := by decide +kernel
theorem dX0_byteAt_14 : decode cX0_byteAt 14 = .ok (.getfield 36, 3) := by decide +kernel
theorem dX0_byteAt_17 : decode cX0_byteAt 17 = .ok (.iload_n 1, 1) := by decide +kernel
theorem dX0_byteAt_18 : decode cX0_byteAt 18 = .ok (.baload, 1) := by decide +kernel
theorem dX0_byteAt_19 : decode cX0_byteAt 19 = .ok (.goto 4, 3) := by decide +kernel
theorem dX0_byteAt_22 : decode cX0_byteAt 22 = .ok (.iconst 0, 1) := by decide +kernel
theorem dX0_byteAt_23 : decode cX0_byteAt 23 = .ok (.ireturn, 1) := by decide +kernel
theorem dX1_init_0 : decode cX1_init 0 = .ok (.aload_n 0, 1) := by decide +kernel
theorem dX1_init_1 : decode cX1_init 1 = .ok (.invokespecial 5, 3) := by decide +kernel
theorem dX1_init_4 : decode cX1_init 4 = .ok (.aload_n 0, 1) := by decide +kernel
theorem dX1_init_5 : decode cX1_init 5 = .ok (.bipush 7, 2) := by decide +kernel
theorem dX1_init_7 : decode cX1_init 7 = .ok (.newarray .int, 2) := by decide +kernel
theorem dX1_init_9 : decode cX1_init 9 = .ok (.putfield 11, 3) := by decide +kernel
theorem dX1_init_12 : decode cX1_init 12 = .ok (.aload_n 0, 1) := by decide +kernel
theorem dX1_init_13 : decode cX1_init 13 = .ok (.bipush 7, 2) := by decide +kernel
theorem dX1_init_15 : decode cX1_init 15 = .ok (.newarray .int, 2) := by decide +kernel
theorem dX1_init_17 : decode cX1_init 17 = .ok (.putfield 15, 3) := by decide +kernel
theorem dX1_init_20 : decode cX1_init 20 = .ok (.aload_n 0, 1) := by decide +kernel
theorem dX1_init_21 : decode cX1_init 21 = .ok (.bipush 7, 2) := by decide +kernel
theorem dX1_init_23 : decode cX1_init 23 = .ok (.newarray .int, 2) := by decide +kernel
theorem dX1_init_25 : decode cX1_init 25 = .ok (.putfield 18, 3) := by decide +kernel
theorem dX1_init_28 : decode cX1_init 28 = .ok (.aload_n 0, 1) := by decide +kernel
theorem dX1_init_29 : decode cX1_init 29 = .ok (.bipush 6, 2) := by decide +kernel
theorem dX1_init_31 : decode cX1_init 31 = .ok (.newarray .int, 2) := by decide +kernel
theorem dX1_init_33 : decode cX1_init 33 = .ok (.putfield 21, 3) := by decide +kernel
theorem dX1_init_36 : decode cX1_init 36 = .ok (.aload_n 0, 1) := by decide +kernel
theorem dX1_init_37 : decode cX1_init 37 = .ok (.bipush 6, 2) := by decide +kernel
theorem dX1_init_39 : decode cX1_init 39 = .ok (.newarray .int, 2) := by decide +kernel
theorem dX1_init_41 : decode cX1_init 41 = .ok (.putfield 24, 3) := by decide +kernel
theorem dX1_init_44 : decode cX1_init 44 = .ok (.aload_n 0, 1) := by decide +kernel
theorem dX1_init_45 : decode cX1_init 45 = .ok (.bipush 6, 2) := by decide +kernel
theorem dX1_init_47 : decode cX1_init 47 = .ok (.newarray .int, 2) := by decide +kernel
theorem dX1_init_49 : decode cX1_init 49 = .ok (.putfield 27, 3) := by decide +kernel
theorem dX1_init_52 : decode cX1_init 52 = .ok (.aload_n 0, 1) := by decide +kernel
theorem dX1_init_53 : decode cX1_init 53 = .ok (.sipush 128, 3) := by decide +kernel
theorem dX1_init_56 : decode cX1_init 56 = .ok (.newarray .int, 2) := by decide +kernel
theorem dX1_init_58 : decode cX1_init 58 = .ok (.putfield 30, 3) := by decide +kernel
theorem dX1_init_61 : decode cX1_init 61 = .ok (.aload_n 0, 1) := by decide +kernel
theorem dX1_init_62 : decode cX1_init 62 = .ok (.sipush 128, 3) := by decide +kernel
theorem dX1_init_65 : decode cX1_init 65 = .ok (.newarray .boolean, 2) := by decide +kernel
theorem dX1_init_67 : decode cX1_init 67 = .ok (.putfield 33, 3) := by decide +kernel
theorem dX1_init_70 : decode cX1_init 70 = .ok (.return_, 1) := by decide +kernel
theorem dX1_begin_0 : decode cX1_begin 0 = .ok (.aload_n 0, 1) := by decide +kernel
theorem dX1_begin_1 : decode cX1_begin 1 = .ok (.iconst 0, 1) := by decide +kernel
theorem dX1_begin_2 : decode cX1_begin 2 = .ok (.putfield 37, 3) := by decide +kernel
theorem dX1_begin_5 : decode cX1_begin 5 = .ok (.aload_n 0, 1) := by decide +kernel
theorem dX1_begin_6 : decode cX1_begin 6 = .ok (.iconst 0, 1) := by decide +kernel
theorem dX1_begin_7 : decode cX1_begin 7 = .ok (.putfield 41, 3) := by decide +kernel
theorem dX1_begin_10 : decode cX1_begin 10 = .ok (.return_, 1) := by decide +kernel
theorem dX2_init_0 : decode cX2_init 0 = .ok (.aload_n 0, 1) := by decide +kernel
theorem dX2_init_1 : decode cX2_init 1 = .ok (.invokespecial 1, 3) := by decide +kernel
theorem dX2_init_4 : decode cX2_init 4 = .ok (.aload_n 0, 1) := by decide +kernel
theorem dX2_init_5 : decode cX2_init 5 = .ok (.iconst 1, 1) := by decide +kernel
theorem dX2_init_6 : decode cX2_init 6 = .ok (.putfield 7, 3) := by decide +kernel
theorem dX2_init_9 : decode cX2_init 9 = .ok (.aload_n 0, 1) := by decide +kernel
theorem dX2_init_10 : decode cX2_init 10 = .ok (.iload_n 1, 1) := by decide +kernel
theorem dX2_init_11 : decode cX2_init 11 = .ok (.putfield 13, 3) := by decide +kernel
theorem dX2_init_14 : decode cX2_init 14 = .ok (.aload_n 0, 1) := by decide +kernel
theorem dX2_init_15 : decode cX2_init 15 = .ok (.iload_n 2, 1) := by decide +kernel
theorem dX2_init_16 : decode cX2_init 16 = .ok (.putfield 17, 3) := by decide +kernel
theorem dX2_init_19 : decode cX2_init 19 = .ok (.aload_n 0, 1) := by decide +kernel
theorem dX2_init_20 : decode cX2_init 20 = .ok (.iload_n 3, 1) := by decide +kernel
theorem dX2_init_21 : decode cX2_init 21 = .ok (.putfield 20, 3) := by decide +kernel
theorem dX2_init_24 : decode cX2_init 24 = .ok (.return_, 1) := by decide +kernel
theorem dX3_init_0 : decode cX3_init 0 = .ok (.aload_n 0, 1) := by decide +kernel
theorem dX3_init_1 : decode cX3_init 1 = .ok (.invokespecial 3, 3) := by decide +kernel
theorem dX3_init_4 : decode cX3_init 4 = .ok (.aload_n 0, 1) := by decide +kernel
theorem dX3_init_5 : decode cX3_init 5 = .ok (.bipush 60, 2) := by decide +kernel
theorem dX3_init_7 : decode cX3_init 7 = .ok (.newarray .int, 2) := by decide +kernel
theorem dX3_init_9 : decode cX3_init 9 = .ok (.putfield 9, 3) := by decide +kernel
theorem dX3_init_12 : decode cX3_init 12 = .ok (.aload_n 0, 1) := by decide +kernel
theorem dX3_init_13 : decode cX3_init 13 = .ok (.bipush 60, 2) := by decide +kernel
theorem dX3_init_15 : decode cX3_init 15 = .ok (.newarray .int, 2) := by decide +kernel
theorem dX3_init_17 : decode cX3_init 17 = .ok (.putfield 15, 3) := by decide +kernel
theorem dX3_init_20 : decode cX3_init 20 = .ok (.aload_n 0, 1) := by decide +kernel
theorem dX3_init_21 : decode cX3_init 21 = .ok (.bipush 60, 2) := by decide +kernel
theorem dX3_init_23 : decode cX3_init 23 = .ok (.newarray .int, 2) := by decide +kernel
theorem dX3_init_25 : decode cX3_init 25 = .ok (.putfield 18, 3) := by decide +kernel
theorem dX3_init_28 : decode cX3_init 28 = .ok (.aload_n 0, 1) := by decide +kernel
theorem dX3_init_29 : decode cX3_init 29 = .ok (.bipush 60, 2) := by decide +kernel
theorem dX3_init_31 : decode cX3_init 31 = .ok (.newarray .int, 2) := by decide +kernel
theorem dX3_init_33 : decode cX3_init 33 = .ok (.putfield 21, 3) := by decide +kernel
theorem dX3_init_36 : decode cX3_init 36 = .ok (.aload_n 0, 1) := by decide +kernel
theorem dX3_init_37 : decode cX3_init 37 = .ok (.bipush 60, 2) := by decide +kernel
theorem dX3_init_39 : decode cX3_init 39 = .ok (.newarray .int, 2) := by decide +kernel
theorem dX3_init_41 : decode cX3_init 41 = .ok (.putfield 24, 3) := by decide +kernel
theorem dX3_init_44 : decode cX3_init 44 = .ok (.return_, 1) := by decide +kernel
theorem dX3_begin_0 : decode cX3_begin 0 = .ok (.aload_n 0, 1) := by decide +kernel
theorem dX3_begin_1 : decode cX3_begin 1 = .ok (.iconst 0, 1) := by decide +kernel
theorem dX3_begin_2 : decode cX3_begin 2 = .ok (.putfield 27, 3) := by decide +kernel
theorem dX3_begin_5 : decode cX3_begin 5 = .ok (.aload_n 0, 1) := by decide +kernel
theorem dX3_begin_6 : decode cX3_begin 6 = .ok (.iconst 0, 1) := by decide +kernel
theorem dX3_begin_7 : decode cX3_begin 7 = .ok (.putfield 31, 3) := by decide +kernel
theorem dX3_begin_10 : decode cX3_begin 10 = .ok (.return_, 1) := by decide +kernel
theorem dX3_fitTo_0 : decode cX3_fitTo 0 = .ok (.aload_n 0, 1) := by decide +kernel
theorem dX3_fitTo_1 : decode cX3_fitTo 1 = .ok (.getfield 31, 3) := by decide +kernel
theorem dX3_fitTo_4 : decode cX3_fitTo 4 = .ok (.aload_n 0, 1) := by decide +kernel
theorem dX3_fitTo_5 : decode cX3_fitTo 5 = .ok (.aload_n 0, 1) := by decide +kernel
theorem dX3_fitTo_6 : decode cX3_fitTo 6 = .ok (.getfield 18, 3) := by decide +kernel
theorem dX3_fitTo_9 : decode cX3_fitTo 9 = .ok (.invokevirtual 43, 3) := by decide +kernel
theorem dX3_fitTo_12 : decode cX3_fitTo 12 = .ok (.iadd, 1) := by decide +kernel
theorem dX3_fitTo_13 : decode cX3_fitTo 13 = .ok (.istore_n 2, 1) := by decide +kernel
theorem dX3_fitTo_14 : decode cX3_fitTo 14 = .ok (.aload_n 0, 1) := by decide +kernel
theorem dX3_fitTo_15 : decode cX3_fitTo 15 = .ok (.getfield 31, 3) := by decide +kernel
theorem dX3_fitTo_18 : decode cX3_fitTo 18 = .ok (.aload_n 0, 1) := by decide +kernel
theorem dX3_fitTo_19 : decode cX3_fitTo 19 = .ok (.aload_n 0, 1) := by decide +kernel
theorem dX3_fitTo_20 : decode cX3_fitTo 20 = .ok (.getfield 21, 3) := by decide +kernel
theorem dX3_fitTo_23 : decode cX3_fitTo 23 = .ok (.invokevirtual 43, 3) := by decide +kernel
theorem dX3_fitTo_26 : decode cX3_fitTo 26 = .ok (.iadd, 1) := by decide +kernel
theorem dX3_fitTo_27 : decode cX3_fitTo 27 = .ok (.istore_n 3, 1) := by decide +kernel
theorem dX3_fitTo_28 : decode cX3_fitTo 28 = .ok (.aload_n 0, 1) := by decide +kernel
theorem dX3_fitTo_29 : decode cX3_fitTo 29 = .ok (.getfield 31, 3) := by decide +kernel
theorem dX3_fitTo_32 : decode cX3_fitTo 32 = .ok (.aload_n 0, 1) := by decide +kernel
theorem dX3_fitTo_33 : decode cX3_fitTo 33 = .ok (.aload_n 0, 1) := by decide +kernel
theorem dX3_fitTo_34 : decode cX3_fitTo 34 = .ok (.getfield 24, 3) := by decide +kernel
theorem dX3_fitTo_37 : decode cX3_fitTo 37 = .ok (.invokevirtual 43, 3) := by decide +kernel
theorem dX3_fitTo_40 : decode cX3_fitTo 40 = .ok (.iadd, 1) := by decide +kernel
theorem dX3_fitTo_41 : decode cX3_fitTo 41 = .ok (.istore 4, 2) := by decide +kernel
theorem dX3_fitTo_43 : decode cX3_fitTo 43 = .ok (.iload_n 1, 1) := by decide +kernel
theorem dX3_fitTo_44 : decode cX3_fitTo 44 = .ok (.ifCond .le 10, 3) := by decide +kernel
theorem dX3_fitTo_47 : decode cX3_fitTo 47 = .ok (.iload 4, 2) := by decide +kernel
theorem dX3_fitTo_49 : decode cX3_fitTo 49 = .ok (.iload_n 1, 1) := by decide +kernel
theorem dX3_fitTo_50 : decode cX3_fitTo 50 = .ok (.irem, 1) := by decide +kernel
theorem dX3_fitTo_51 : decode cX3_fitTo 51 = .ok (.goto 4, 3) := by decide +kernel
theorem dX3_fitTo_54 : decode cX3_fitTo 54 = .ok (.iconst 0, 1) := by decide +kernel
theorem dX3_fitTo_55 : decode cX3_fitTo 55 = .ok (.istore 5, 2) := by decide +kernel
theorem dX3_fitTo_57 : decode cX3_fitTo 57 = .ok (.iload 5, 2) := by decide +kernel
theorem dX3_fitTo_59 : decode cX3_fitTo 59 = .ok (.ifCond .ne 5, 3) := by decide +kernel
theorem dX3_fitTo_62 : decode cX3_fitTo 62 = .ok (.iconst 1, 1) := by decide +kernel
theorem dX3_fitTo_63 : decode cX3_fitTo 63 = .ok (.ireturn, 1) := by decide +kernel
theorem dX3_sumOf_0 : decode cX3_sumOf 0 = .ok (.iconst 0, 1) := by decide +kernel
theorem dX3_sumOf_1 : decode cX3_sumOf 1 = .ok (.istore_n 2, 1) := by decide +kernel
theorem dX3_sumOf_2 : decode cX3_sumOf 2 = .ok (.iconst 0, 1) := by decide +kernel
theorem dX3_sumOf_3 : decode cX3_sumOf 3 = .ok (.istore_n 3, 1) := by decide +kernel
theorem dX3_sumOf_4 : decode cX3_sumOf 4 = .ok (.iload_n 3, 1) := by decide +kernel
theorem dX3_sumOf_5 : decode cX3_sumOf 5 = .ok (.aload_n 0, 1) := by decide +kernel
theorem dX3_sumOf_6 : decode cX3_sumOf 6 = .ok (.getfield 27, 3) := by decide +kernel
theorem dX3_sumOf_9 : decode cX3_sumOf 9 = .ok (.if_icmp .ge 21, 3) := by decide +kernel
theorem dX3_sumOf_30 : decode cX3_sumOf 30 = .ok (.iload_n 2, 1) := by decide +kernel
theorem dX3_sumOf_31 : decode cX3_sumOf 31 = .ok (.ireturn, 1) := by decide +kernel
theorem dX3_differences_0 : decode cX3_differences 0 = .ok (.iconst 0, 1) := by decide +kernel
theorem dX3_differences_1 : decode cX3_differences 1 = .ok (.istore_n 1, 1) := by decide +kernel
theorem dX3_differences_2 : decode cX3_differences 2 = .ok (.iconst 0, 1) := by decide +kernel
theorem dX3_differences_3 : decode cX3_differences 3 = .ok (.istore_n 2, 1) := by decide +kernel
theorem dX3_differences_4 : decode cX3_differences 4 = .ok (.iload_n 2, 1) := by decide +kernel
theorem dX3_differences_5 : decode cX3_differences 5 = .ok (.aload_n 0, 1) := by decide +kernel
theorem dX3_differences_6 : decode cX3_differences 6 = .ok (.getfield 27, 3) := by decide +kernel
theorem dX3_differences_9 : decode cX3_differences 9 = .ok (.if_icmp .ge 34, 3) := by decide +kernel
theorem dX3_differences_43 : decode cX3_differences 43 = .ok (.iload_n 1, 1) := by decide +kernel
theorem dX3_differences_44 : decode cX3_differences 44 = .ok (.ireturn, 1) := by decide +kernel
theorem dX5_init_0 : decode cX5_init 0 = .ok (.aload_n 0, 1) := by decide +kernel
theorem dX5_init_1 : decode cX5_init 1 = .ok (.invokespecial 3, 3) := by decide +kernel
theorem dX5_init_4 : decode cX5_init 4 = .ok (.aload_n 0, 1) := by decide +kernel
theorem dX5_init_5 : decode cX5_init 5 = .ok (.bipush 40, 2) := by decide +kernel
theorem dX5_init_7 : decode cX5_init 7 = .ok (.newarray .int, 2) := by decide +kernel
theorem dX5_init_9 : decode cX5_init 9 = .ok (.putfield 11, 3) := by decide +kernel
theorem dX5_init_12 : decode cX5_init 12 = .ok (.aload_n 0, 1) := by decide +kernel
theorem dX5_init_13 : decode cX5_init 13 = .ok (.sipush 600, 3) := by decide +kernel
theorem dX5_init_16 : decode cX5_init 16 = .ok (.newarray .int, 2) := by decide +kernel
theorem dX5_init_18 : decode cX5_init 18 = .ok (.putfield 15, 3) := by decide +kernel
theorem dX5_init_21 : decode cX5_init 21 = .ok (.aload_n 0, 1) := by decide +kernel
theorem dX5_init_22 : decode cX5_init 22 = .ok (.sipush 600, 3) := by decide +kernel
theorem dX5_init_25 : decode cX5_init 25 = .ok (.newarray .int, 2) := by decide +kernel
theorem dX5_init_27 : decode cX5_init 27 = .ok (.putfield 18, 3) := by decide +kernel
theorem dX5_init_30 : decode cX5_init 30 = .ok (.aload_n 0, 1) := by decide +kernel
theorem dX5_init_31 : decode cX5_init 31 = .ok (.sipush 600, 3) := by decide +kernel
theorem dX5_init_34 : decode cX5_init 34 = .ok (.newarray .int, 2) := by decide +kernel
theorem dX5_init_36 : decode cX5_init 36 = .ok (.putfield 21, 3) := by decide +kernel
theorem dX5_init_39 : decode cX5_init 39 = .ok (.aload_n 0, 1) := by decide +kernel
theorem dX5_init_40 : decode cX5_init 40 = .ok (.sipush 600, 3) := by decide +kernel
theorem dX5_init_43 : decode cX5_init 43 = .ok (.newarray .int, 2) := by decide +kernel
theorem dX5_init_45 : decode cX5_init 45 = .ok (.putfield 24, 3) := by decide +kernel
theorem dX5_init_48 : decode cX5_init 48 = .ok (.aload_n 0, 1) := by decide +kernel
theorem dX5_init_49 : decode cX5_init 49 = .ok (.bipush 60, 2) := by decide +kernel
theorem dX5_init_51 : decode cX5_init 51 = .ok (.newarray .int, 2) := by decide +kernel
theorem dX5_init_53 : decode cX5_init 53 = .ok (.putfield 27, 3) := by decide +kernel
theorem dX5_init_56 : decode cX5_init 56 = .ok (.aload_n 0, 1) := by decide +kernel
theorem dX5_init_57 : decode cX5_init 57 = .ok (.bipush 60, 2) := by decide +kernel
theorem dX5_init_59 : decode cX5_init 59 = .ok (.newarray .int, 2) := by decide +kernel
theorem dX5_init_61 : decode cX5_init 61 = .ok (.putfield 30, 3) := by decide +kernel
theorem dX5_init_64 : decode cX5_init 64 = .ok (.aload_n 0, 1) := by decide +kernel
theorem dX5_init_65 : decode cX5_init 65 = .ok (.bipush 60, 2) := by decide +kernel
theorem dX5_init_67 : decode cX5_init 67 = .ok (.newarray .int, 2) := by decide +kernel
theorem dX5_init_69 : decode cX5_init 69 = .ok (.putfield 33, 3) := by decide +kernel
theorem dX5_init_72 : decode cX5_init 72 = .ok (.aload_n 0, 1) := by decide +kernel
theorem dX5_init_73 : decode cX5_init 73 = .ok (.bipush 60, 2) := by decide +kernel
theorem dX5_init_75 : decode cX5_init 75 = .ok (.newarray .int, 2) := by decide +kernel
theorem dX5_init_77 : decode cX5_init 77 = .ok (.putfield 36, 3) := by decide +kernel
theorem dX5_init_80 : decode cX5_init 80 = .ok (.aload_n 0, 1) := by decide +kernel
theorem dX5_init_81 : decode cX5_init 81 = .ok (.bipush 60, 2) := by decide +kernel
theorem dX5_init_83 : decode cX5_init 83 = .ok (.newarray .boolean, 2) := by decide +kernel
theorem dX5_init_85 : decode cX5_init 85 = .ok (.putfield 39, 3) := by decide +kernel
theorem dX5_init_88 : decode cX5_init 88 = .ok (.aload_n 0, 1) := by decide +kernel
theorem dX5_init_89 : decode cX5_init 89 = .ok (.getfield 11, 3) := by decide +kernel
theorem dX5_init_92 : decode cX5_init 92 = .ok (.iconst (-1), 1) := by decide +kernel
theorem dX5_init_93 : decode cX5_init 93 = .ok (.invokestatic 43, 3) := by decide +kernel
theorem dX5_init_96 : decode cX5_init 96 = .ok (.return_, 1) := by decide +kernel
theorem dX5_addFact_0 : decode cX5_addFact 0 = .ok (.iload_n 1, 1) := by decide +kernel
theorem dX5_addFact_1 : decode cX5_addFact 1 = .ok (.ifCond .lt 26, 3) := by decide +kernel
theorem dX5_addFact_4 : decode cX5_addFact 4 = .ok (.iload_n 1, 1) := by decide +kernel
theorem dX5_addFact_5 : decode cX5_addFact 5 = .ok (.bipush 40, 2) := by decide +kernel
theorem dX5_addFact_7 : decode cX5_addFact 7 = .ok (.if_icmp .ge 20, 3) := by decide +kernel
theorem dX5_addFact_10 : decode cX5_addFact 10 = .ok (.aload_n 0, 1) := by decide +kernel
theorem dX5_addFact_11 : decode cX5_addFact 11 = .ok (.getfield 49, 3) := by decide +kernel
theorem dX5_addFact_14 : decode cX5_addFact 14 = .ok (.ifCond .lt 13, 3) := by decide +kernel
theorem dX5_addFact_17 : decode cX5_addFact 17 = .ok (.aload_n 0, 1) := by decide +kernel
theorem dX5_addFact_18 : decode cX5_addFact 18 = .ok (.getfield 49, 3) := by decide +kernel
theorem dX5_addFact_21 : decode cX5_addFact 21 = .ok (.sipush 600, 3) := by decide +kernel
theorem dX5_addFact_24 : decode cX5_addFact 24 = .ok (.if_icmp .lt 5, 3) := by decide +kernel
theorem dX5_addFact_27 : decode cX5_addFact 27 = .ok (.iconst 0, 1) := by decide +kernel
theorem dX5_addFact_28 : decode cX5_addFact 28 = .ok (.ireturn, 1) := by decide +kernel
theorem dX5_addFact_29 : decode cX5_addFact 29 = .ok (.aload_n 0, 1) := by decide +kernel
theorem dX5_addFact_30 : decode cX5_addFact 30 = .ok (.getfield 15, 3) := by decide +kernel
theorem dX5_addFact_33 : decode cX5_addFact 33 = .ok (.aload_n 0, 1) := by decide +kernel
theorem dX5_addFact_34 : decode cX5_addFact 34 = .ok (.getfield 49, 3) := by decide +kernel
theorem dX5_addFact_37 : decode cX5_addFact 37 = .ok (.iload_n 2, 1) := by decide +kernel
theorem dX5_addFact_38 : decode cX5_addFact 38 = .ok (.iastore, 1) := by decide +kernel
theorem dX5_addFact_39 : decode cX5_addFact 39 = .ok (.aload_n 0, 1) := by decide +kernel
theorem dX5_addFact_40 : decode cX5_addFact 40 = .ok (.getfield 18, 3) := by decide +kernel
theorem dX5_addFact_43 : decode cX5_addFact 43 = .ok (.aload_n 0, 1) := by decide +kernel
theorem dX5_addFact_44 : decode cX5_addFact 44 = .ok (.getfield 49, 3) := by decide +kernel
theorem dX5_addFact_47 : decode cX5_addFact 47 = .ok (.iload_n 3, 1) := by decide +kernel
theorem dX5_addFact_48 : decode cX5_addFact 48 = .ok (.iastore, 1) := by decide +kernel
theorem dX5_addFact_49 : decode cX5_addFact 49 = .ok (.aload_n 0, 1) := by decide +kernel
theorem dX5_addFact_50 : decode cX5_addFact 50 = .ok (.getfield 21, 3) := by decide +kernel
theorem dX5_addFact_53 : decode cX5_addFact 53 = .ok (.aload_n 0, 1) := by decide +kernel
theorem dX5_addFact_54 : decode cX5_addFact 54 = .ok (.getfield 49, 3) := by decide +kernel
theorem dX5_addFact_57 : decode cX5_addFact 57 = .ok (.iload 4, 2) := by decide +kernel
theorem dX5_addFact_59 : decode cX5_addFact 59 = .ok (.iastore, 1) := by decide +kernel
theorem dX5_addFact_60 : decode cX5_addFact 60 = .ok (.aload_n 0, 1) := by decide +kernel
theorem dX5_addFact_61 : decode cX5_addFact 61 = .ok (.getfield 24, 3) := by decide +kernel
theorem dX5_addFact_64 : decode cX5_addFact 64 = .ok (.aload_n 0, 1) := by decide +kernel
theorem dX5_addFact_65 : decode cX5_addFact 65 = .ok (.getfield 49, 3) := by decide +kernel
theorem dX5_addFact_68 : decode cX5_addFact 68 = .ok (.aload_n 0, 1) := by decide +kernel
theorem dX5_addFact_69 : decode cX5_addFact 69 = .ok (.getfield 11, 3) := by decide +kernel
theorem dX5_addFact_72 : decode cX5_addFact 72 = .ok (.iload_n 1, 1) := by decide +kernel
theorem dX5_addFact_73 : decode cX5_addFact 73 = .ok (.iaload, 1) := by decide +kernel
theorem dX5_addFact_74 : decode cX5_addFact 74 = .ok (.iastore, 1) := by decide +kernel
theorem dX5_addFact_75 : decode cX5_addFact 75 = .ok (.aload_n 0, 1) := by decide +kernel
theorem dX5_addFact_76 : decode cX5_addFact 76 = .ok (.getfield 11, 3) := by decide +kernel
theorem dX5_addFact_79 : decode cX5_addFact 79 = .ok (.iload_n 1, 1) := by decide +kernel
theorem dX5_addFact_80 : decode cX5_addFact 80 = .ok (.aload_n 0, 1) := by decide +kernel
theorem dX5_addFact_81 : decode cX5_addFact 81 = .ok (.getfield 49, 3) := by decide +kernel
theorem dX5_addFact_84 : decode cX5_addFact 84 = .ok (.iastore, 1) := by decide +kernel
theorem dX5_addFact_85 : decode cX5_addFact 85 = .ok (.aload_n 0, 1) := by decide +kernel
theorem dX5_addFact_86 : decode cX5_addFact 86 = .ok (.dup, 1) := by decide +kernel
theorem dX5_addFact_87 : decode cX5_addFact 87 = .ok (.getfield 49, 3) := by decide +kernel
theorem dX5_addFact_90 : decode cX5_addFact 90 = .ok (.iconst 1, 1) := by decide +kernel
theorem dX5_addFact_91 : decode cX5_addFact 91 = .ok (.iadd, 1) := by decide +kernel
theorem dX5_addFact_92 : decode cX5_addFact 92 = .ok (.putfield 49, 3) := by decide +kernel
theorem dX5_addFact_95 : decode cX5_addFact 95 = .ok (.iconst 1, 1) := by decide +kernel
theorem dX5_addFact_96 : decode cX5_addFact 96 = .ok (.ireturn, 1) := by decide +kernel
theorem dX5_tellOn_0 : decode cX5_tellOn 0 = .ok (.iload_n 1, 1) := by decide +kernel
theorem dX5_tellOn_1 : decode cX5_tellOn 1 = .ok (.ifCond .lt 18, 3) := by decide +kernel
theorem dX5_tellOn_4 : decode cX5_tellOn 4 = .ok (.iload_n 1, 1) := by decide +kernel
theorem dX5_tellOn_5 : decode cX5_tellOn 5 = .ok (.bipush 40, 2) := by decide +kernel
theorem dX5_tellOn_7 : decode cX5_tellOn 7 = .ok (.if_icmp .ge 12, 3) := by decide +kernel
theorem dX5_tellOn_10 : decode cX5_tellOn 10 = .ok (.aload_n 0, 1) := by decide +kernel
theorem dX5_tellOn_11 : decode cX5_tellOn 11 = .ok (.getfield 11, 3) := by decide +kernel
theorem dX5_tellOn_14 : decode cX5_tellOn 14 = .ok (.iload_n 1, 1) := by decide +kernel
theorem dX5_tellOn_15 : decode cX5_tellOn 15 = .ok (.iaload, 1) := by decide +kernel
theorem dX5_tellOn_16 : decode cX5_tellOn 16 = .ok (.goto 4, 3) := by decide +kernel
theorem dX5_tellOn_19 : decode cX5_tellOn 19 = .ok (.iconst (-1), 1) := by decide +kernel
theorem dX5_tellOn_20 : decode cX5_tellOn 20 = .ok (.istore_n 3, 1) := by decide +kernel
theorem dX5_tellOn_21 : decode cX5_tellOn 21 = .ok (.iconst 0, 1) := by decide +kernel
theorem dX5_tellOn_22 : decode cX5_tellOn 22 = .ok (.istore 4, 2) := by decide +kernel
theorem dX5_tellOn_24 : decode cX5_tellOn 24 = .ok (.iload 4, 2) := by decide +kernel
theorem dX5_tellOn_26 : decode cX5_tellOn 26 = .ok (.sipush 600, 3) := by decide +kernel
theorem dX5_tellOn_29 : decode cX5_tellOn 29 = .ok (.if_icmp .ge 39, 3) := by decide +kernel
theorem dX5_tellOn_32 : decode cX5_tellOn 32 = .ok (.iload_n 3, 1) := by decide +kernel
theorem dX5_tellOn_33 : decode cX5_tellOn 33 = .ok (.ifCond .lt 35, 3) := by decide +kernel
theorem dX5_tellOn_68 : decode cX5_tellOn 68 = .ok (.iconst (-1), 1) := by decide +kernel
theorem dX5_tellOn_69 : decode cX5_tellOn 69 = .ok (.ireturn, 1) := by decide +kernel
theorem dX5_valueOn_0 : decode cX5_valueOn 0 = .ok (.aload_n 0, 1) := by decide +kernel
theorem dX5_valueOn_1 : decode cX5_valueOn 1 = .ok (.iload_n 1, 1) := by decide +kernel
theorem dX5_valueOn_2 : decode cX5_valueOn 2 = .ok (.iload_n 2, 1) := by decide +kernel
theorem dX5_valueOn_3 : decode cX5_valueOn 3 = .ok (.invokevirtual 53, 3) := by decide +kernel
theorem dX5_valueOn_6 : decode cX5_valueOn 6 = .ok (.istore_n 3, 1) := by decide +kernel
theorem dX5_valueOn_7 : decode cX5_valueOn 7 = .ok (.iload_n 3, 1) := by decide +kernel
theorem dX5_valueOn_8 : decode cX5_valueOn 8 = .ok (.ifCond .lt 19, 3) := by decide +kernel
theorem dX5_valueOn_27 : decode cX5_valueOn 27 = .ok (.iconst (-1), 1) := by decide +kernel
theorem dX5_valueOn_28 : decode cX5_valueOn 28 = .ok (.ireturn, 1) := by decide +kernel
theorem dX5_sourceOn_0 : decode cX5_sourceOn 0 = .ok (.aload_n 0, 1) := by decide +kernel
theorem dX5_sourceOn_1 : decode cX5_sourceOn 1 = .ok (.iload_n 1, 1) := by decide +kernel
theorem dX5_sourceOn_2 : decode cX5_sourceOn 2 = .ok (.iload_n 2, 1) := by decide +kernel
theorem dX5_sourceOn_3 : decode cX5_sourceOn 3 = .ok (.invokevirtual 53, 3) := by decide +kernel
theorem dX5_sourceOn_6 : decode cX5_sourceOn 6 = .ok (.istore_n 3, 1) := by decide +kernel
theorem dX5_sourceOn_7 : decode cX5_sourceOn 7 = .ok (.iload_n 3, 1) := by decide +kernel
theorem dX5_sourceOn_8 : decode cX5_sourceOn 8 = .ok (.ifCond .lt 19, 3) := by decide +kernel
theorem dX5_sourceOn_27 : decode cX5_sourceOn 27 = .ok (.iconst (-1), 1) := by decide +kernel
theorem dX5_sourceOn_28 : decode cX5_sourceOn 28 = .ok (.ireturn, 1) := by decide +kernel
theorem dX5_missedBy_0 : decode cX5_missedBy 0 = .ok (.iload_n 1, 1) := by decide +kernel
theorem dX5_missedBy_1 : decode cX5_missedBy 1 = .ok (.ifCond .lt 17, 3) := by decide +kernel
theorem dX5_missedBy_4 : decode cX5_missedBy 4 = .ok (.iload_n 1, 1) := by decide +kernel
theorem dX5_missedBy_5 : decode cX5_missedBy 5 = .ok (.aload_n 0, 1) := by decide +kernel
theorem dX5_missedBy_6 : decode cX5_missedBy 6 = .ok (.getfield 57, 3) := by decide +kernel
theorem dX5_missedBy_9 : decode cX5_missedBy 9 = .ok (.if_icmp .ge 9, 3) := by decide +kernel
theorem dX5_missedBy_18 : decode cX5_missedBy 18 = .ok (.iconst (-1), 1) := by decide +kernel
theorem dX5_missedBy_19 : decode cX5_missedBy 19 = .ok (.ireturn, 1) := by decide +kernel
theorem dX6_init_0 : decode cX6_init 0 = .ok (.aload_n 0, 1) := by decide +kernel
theorem dX6_init_1 : decode cX6_init 1 = .ok (.invokespecial 1, 3) := by decide +kernel
theorem dX6_init_4 : decode cX6_init 4 = .ok (.aload_n 0, 1) := by decide +kernel
theorem dX6_init_5 : decode cX6_init 5 = .ok (.aload_n 1, 1) := by decide +kernel
theorem dX6_init_6 : decode cX6_init 6 = .ok (.putfield 7, 3) := by decide +kernel
theorem dX6_init_9 : decode cX6_init 9 = .ok (.return_, 1) := by decide +kernel
theorem dX6_take_0 : decode cX6_take 0 = .ok (.aload_n 0, 1) := by decide +kernel
theorem dX6_take_1 : decode cX6_take 1 = .ok (.iload_n 1, 1) := by decide +kernel
theorem dX6_take_2 : decode cX6_take 2 = .ok (.putfield 13, 3) := by decide +kernel
theorem dX6_take_5 : decode cX6_take 5 = .ok (.aload_n 0, 1) := by decide +kernel
theorem dX6_take_6 : decode cX6_take 6 = .ok (.iload_n 2, 1) := by decide +kernel
theorem dX6_take_7 : decode cX6_take 7 = .ok (.putfield 17, 3) := by decide +kernel
theorem dX6_take_10 : decode cX6_take 10 = .ok (.aload_n 0, 1) := by decide +kernel
theorem dX6_take_11 : decode cX6_take 11 = .ok (.iconst 1, 1) := by decide +kernel
theorem dX6_take_12 : decode cX6_take 12 = .ok (.putfield 20, 3) := by decide +kernel
theorem dX6_take_15 : decode cX6_take 15 = .ok (.aload_n 0, 1) := by decide +kernel
theorem dX6_take_16 : decode cX6_take 16 = .ok (.aload_n 0, 1) := by decide +kernel
theorem dX6_take_17 : decode cX6_take 17 = .ok (.getfield 7, 3) := by decide +kernel
theorem dX6_take_20 : decode cX6_take 20 = .ok (.iconst 1, 1) := by decide +kernel
theorem dX6_take_21 : decode cX6_take 21 = .ok (.iload_n 1, 1) := by decide +kernel
theorem dX6_take_22 : decode cX6_take 22 = .ok (.iload_n 2, 1) := by decide +kernel
theorem dX6_take_23 : decode cX6_take 23 = .ok (.invokevirtual 26, 3) := by decide +kernel
theorem dX6_take_26 : decode cX6_take 26 = .ok (.ifCond .eq 7, 3) := by decide +kernel
theorem dX6_take_29 : decode cX6_take 29 = .ok (.iconst 1, 1) := by decide +kernel
theorem dX6_take_30 : decode cX6_take 30 = .ok (.goto 4, 3) := by decide +kernel
theorem dX6_take_33 : decode cX6_take 33 = .ok (.iconst 0, 1) := by decide +kernel
theorem dX6_take_34 : decode cX6_take 34 = .ok (.putfield 32, 3) := by decide +kernel
theorem dX6_take_37 : decode cX6_take 37 = .ok (.aload_n 0, 1) := by decide +kernel
theorem dX6_take_38 : decode cX6_take 38 = .ok (.aload_n 0, 1) := by decide +kernel
theorem dX6_take_39 : decode cX6_take 39 = .ok (.getfield 7, 3) := by decide +kernel
theorem dX6_take_42 : decode cX6_take 42 = .ok (.iconst 0, 1) := by decide +kernel
theorem dX6_take_43 : decode cX6_take 43 = .ok (.iload_n 1, 1) := by decide +kernel
theorem dX6_take_44 : decode cX6_take 44 = .ok (.iload_n 2, 1) := by decide +kernel
theorem dX6_take_45 : decode cX6_take 45 = .ok (.invokevirtual 26, 3) := by decide +kernel
theorem dX6_take_48 : decode cX6_take 48 = .ok (.ifCond .eq 7, 3) := by decide +kernel
theorem dX6_take_51 : decode cX6_take 51 = .ok (.iconst 1, 1) := by decide +kernel
theorem dX6_take_52 : decode cX6_take 52 = .ok (.goto 4, 3) := by decide +kernel
theorem dX6_take_55 : decode cX6_take 55 = .ok (.iconst 0, 1) := by decide +kernel
theorem dX6_take_56 : decode cX6_take 56 = .ok (.putfield 35, 3) := by decide +kernel
theorem dX6_take_59 : decode cX6_take 59 = .ok (.return_, 1) := by decide +kernel
theorem dX6_prepare_0 : decode cX6_prepare 0 = .ok (.aload_n 0, 1) := by decide +kernel
theorem dX6_prepare_1 : decode cX6_prepare 1 = .ok (.getfield 20, 3) := by decide +kernel
theorem dX6_prepare_4 : decode cX6_prepare 4 = .ok (.ifCond .eq 36, 3) := by decide +kernel
theorem dX6_prepare_7 : decode cX6_prepare 7 = .ok (.aload_n 1, 1) := by decide +kernel
theorem dX6_prepare_8 : decode cX6_prepare 8 = .ok (.getfield 38, 3) := by decide +kernel
theorem dX6_prepare_11 : decode cX6_prepare 11 = .ok (.ifCond .le 29, 3) := by decide +kernel
theorem dX6_prepare_14 : decode cX6_prepare 14 = .ok (.aload_n 0, 1) := by decide +kernel
theorem dX6_prepare_15 : decode cX6_prepare 15 = .ok (.getfield 7, 3) := by decide +kernel
theorem dX6_prepare_18 : decode cX6_prepare 18 = .ok (.aload_n 1, 1) := by decide +kernel
theorem dX6_prepare_19 : decode cX6_prepare 19 = .ok (.getfield 43, 3) := by decide +kernel
theorem dX6_prepare_22 : decode cX6_prepare 22 = .ok (.aload_n 0, 1) := by decide +kernel
theorem dX6_prepare_23 : decode cX6_prepare 23 = .ok (.getfield 13, 3) := by decide +kernel
theorem dX6_prepare_26 : decode cX6_prepare 26 = .ok (.aload_n 0, 1) := by decide +kernel
theorem dX6_prepare_27 : decode cX6_prepare 27 = .ok (.getfield 17, 3) := by decide +kernel
theorem dX6_prepare_30 : decode cX6_prepare 30 = .ok (.invokevirtual 47, 3) := by decide +kernel
theorem dX6_prepare_33 : decode cX6_prepare 33 = .ok (.ifCond .eq 7, 3) := by decide +kernel
theorem dX6_prepare_36 : decode cX6_prepare 36 = .ok (.iconst 1, 1) := by decide +kernel
theorem dX6_prepare_37 : decode cX6_prepare 37 = .ok (.goto 4, 3) := by decide +kernel
theorem dX6_prepare_40 : decode cX6_prepare 40 = .ok (.iconst 0, 1) := by decide +kernel
theorem dX6_prepare_41 : decode cX6_prepare 41 = .ok (.istore_n 2, 1) := by decide +kernel
theorem dX6_prepare_42 : decode cX6_prepare 42 = .ok (.aload_n 1, 1) := by decide +kernel
theorem dX6_prepare_43 : decode cX6_prepare 43 = .ok (.iload_n 2, 1) := by decide +kernel
theorem dX6_prepare_44 : decode cX6_prepare 44 = .ok (.ifCond .eq 10, 3) := by decide +kernel
theorem dX6_prepare_47 : decode cX6_prepare 47 = .ok (.aload_n 1, 1) := by decide +kernel
theorem dX6_prepare_48 : decode cX6_prepare 48 = .ok (.getfield 38, 3) := by decide +kernel
theorem dX6_prepare_51 : decode cX6_prepare 51 = .ok (.goto 4, 3) := by decide +kernel
theorem dX6_prepare_54 : decode cX6_prepare 54 = .ok (.iconst 0, 1) := by decide +kernel
theorem dX6_prepare_55 : decode cX6_prepare 55 = .ok (.putfield 50, 3) := by decide +kernel
theorem dX6_prepare_58 : decode cX6_prepare 58 = .ok (.return_, 1) := by decide +kernel
theorem dX7_init_0 : decode cX7_init 0 = .ok (.aload_n 0, 1) := by decide +kernel
theorem dX7_init_1 : decode cX7_init 1 = .ok (.invokespecial 3, 3) := by decide +kernel
theorem dX7_init_4 : decode cX7_init 4 = .ok (.aload_n 0, 1) := by decide +kernel
theorem dX7_init_5 : decode cX7_init 5 = .ok (.sipush 600, 3) := by decide +kernel
theorem dX7_init_8 : decode cX7_init 8 = .ok (.newarray .byte, 2) := by decide +kernel
theorem dX7_init_10 : decode cX7_init 10 = .ok (.putfield 11, 3) := by decide +kernel
theorem dX7_init_13 : decode cX7_init 13 = .ok (.aload_n 0, 1) := by decide +kernel
theorem dX7_init_14 : decode cX7_init 14 = .ok (.sipush 601, 3) := by decide +kernel
theorem dX7_init_17 : decode cX7_init 17 = .ok (.newarray .int, 2) := by decide +kernel
theorem dX7_init_19 : decode cX7_init 19 = .ok (.putfield 15, 3) := by decide +kernel
theorem dX7_init_22 : decode cX7_init 22 = .ok (.aload_n 0, 1) := by decide +kernel
theorem dX7_init_23 : decode cX7_init 23 = .ok (.sipush 601, 3) := by decide +kernel
theorem dX7_init_26 : decode cX7_init 26 = .ok (.newarray .int, 2) := by decide +kernel
theorem dX7_init_28 : decode cX7_init 28 = .ok (.putfield 19, 3) := by decide +kernel
theorem dX7_init_31 : decode cX7_init 31 = .ok (.aload_n 0, 1) := by decide +kernel
theorem dX7_init_32 : decode cX7_init 32 = .ok (.sipush 601, 3) := by decide +kernel
theorem dX7_init_35 : decode cX7_init 35 = .ok (.newarray .int, 2) := by decide +kernel
theorem dX7_init_37 : decode cX7_init 37 = .ok (.putfield 22, 3) := by decide +kernel
theorem dX7_init_40 : decode cX7_init 40 = .ok (.aload_n 0, 1) := by decide +kernel
theorem dX7_init_41 : decode cX7_init 41 = .ok (.sipush 601, 3) := by decide +kernel
theorem dX7_init_44 : decode cX7_init 44 = .ok (.newarray .int, 2) := by decide +kernel
theorem dX7_init_46 : decode cX7_init 46 = .ok (.putfield 25, 3) := by decide +kernel
theorem dX7_init_49 : decode cX7_init 49 = .ok (.aload_n 0, 1) := by decide +kernel
theorem dX7_init_50 : decode cX7_init 50 = .ok (.sipush 600, 3) := by decide +kernel
theorem dX7_init_53 : decode cX7_init 53 = .ok (.newarray .int, 2) := by decide +kernel
theorem dX7_init_55 : decode cX7_init 55 = .ok (.putfield 28, 3) := by decide +kernel
theorem dX7_init_58 : decode cX7_init 58 = .ok (.aload_n 0, 1) := by decide +kernel
theorem dX7_init_59 : decode cX7_init 59 = .ok (.bipush 14, 2) := by decide +kernel
theorem dX7_init_61 : decode cX7_init 61 = .ok (.newarray .int, 2) := by decide +kernel
theorem dX7_init_63 : decode cX7_init 63 = .ok (.putfield 33, 3) := by decide +kernel
theorem dX7_init_66 : decode cX7_init 66 = .ok (.aload_n 0, 1) := by decide +kernel
theorem dX7_init_67 : decode cX7_init 67 = .ok (.bipush 14, 2) := by decide +kernel
theorem dX7_init_69 : decode cX7_init 69 = .ok (.newarray .int, 2) := by decide +kernel
theorem dX7_init_71 : decode cX7_init 71 = .ok (.putfield 36, 3) := by decide +kernel
theorem dX7_init_74 : decode cX7_init 74 = .ok (.aload_n 0, 1) := by decide +kernel
theorem dX7_init_75 : decode cX7_init 75 = .ok (.iconst 4, 1) := by decide +kernel
theorem dX7_init_76 : decode cX7_init 76 = .ok (.newarray .long, 2) := by decide +kernel
theorem dX7_init_78 : decode cX7_init 78 = .ok (.putfield 39, 3) := by decide +kernel
theorem dX7_init_81 : decode cX7_init 81 = .ok (.return_, 1) := by decide +kernel
theorem dX7_append_0 : decode cX7_append 0 = .ok (.bipush 24, 2) := by decide +kernel
theorem dX7_append_2 : decode cX7_append 2 = .ok (.istore_n 2, 1) := by decide +kernel
theorem dX7_append_3 : decode cX7_append 3 = .ok (.iload_n 2, 1) := by decide +kernel
theorem dX7_append_4 : decode cX7_append 4 = .ok (.ifCond .lt 49, 3) := by decide +kernel
theorem dX7_append_7 : decode cX7_append 7 = .ok (.aload_n 0, 1) := by decide +kernel
theorem dX7_append_8 : decode cX7_append 8 = .ok (.getfield 43, 3) := by decide +kernel
theorem dX7_append_11 : decode cX7_append 11 = .ok (.ifCond .lt 36, 3) := by decide +kernel
theorem dX7_append_14 : decode cX7_append 14 = .ok (.aload_n 0, 1) := by decide +kernel
theorem dX7_append_15 : decode cX7_append 15 = .ok (.getfield 43, 3) := by decide +kernel
theorem dX7_append_18 : decode cX7_append 18 = .ok (.sipush 600, 3) := by decide +kernel
theorem dX7_append_21 : decode cX7_append 21 = .ok (.if_icmp .ge 26, 3) := by decide +kernel
theorem dX7_append_24 : decode cX7_append 24 = .ok (.aload_n 0, 1) := by decide +kernel
theorem dX7_append_25 : decode cX7_append 25 = .ok (.getfield 11, 3) := by decide +kernel
theorem dX7_append_28 : decode cX7_append 28 = .ok (.aload_n 0, 1) := by decide +kernel
theorem dX7_append_29 : decode cX7_append 29 = .ok (.getfield 43, 3) := by decide +kernel
theorem dX7_append_32 : decode cX7_append 32 = .ok (.iload_n 1, 1) := by decide +kernel
theorem dX7_append_33 : decode cX7_append 33 = .ok (.iload_n 2, 1) := by decide +kernel
theorem dX7_append_34 : decode cX7_append 34 = .ok (.iushr, 1) := by decide +kernel
theorem dX7_append_35 : decode cX7_append 35 = .ok (.i2b, 1) := by decide +kernel
theorem dX7_append_36 : decode cX7_append 36 = .ok (.bastore, 1) := by decide +kernel
theorem dX7_append_37 : decode cX7_append 37 = .ok (.aload_n 0, 1) := by decide +kernel
theorem dX7_append_38 : decode cX7_append 38 = .ok (.dup, 1) := by decide +kernel
theorem dX7_append_39 : decode cX7_append 39 = .ok (.getfield 43, 3) := by decide +kernel
theorem dX7_append_42 : decode cX7_append 42 = .ok (.iconst 1, 1) := by decide +kernel
theorem dX7_append_43 : decode cX7_append 43 = .ok (.iadd, 1) := by decide +kernel
theorem dX7_append_44 : decode cX7_append 44 = .ok (.putfield 43, 3) := by decide +kernel
theorem dX7_append_47 : decode cX7_append 47 = .ok (.iinc 2 (-8), 3) := by decide +kernel
theorem dX7_append_50 : decode cX7_append 50 = .ok (.goto (-47), 3) := by decide +kernel
theorem dX7_append_53 : decode cX7_append 53 = .ok (.return_, 1) := by decide +kernel
theorem dX7_parse_0 : decode cX7_parse 0 = .ok (.aload_n 0, 1) := by decide +kernel
theorem dX7_parse_1 : decode cX7_parse 1 = .ok (.invokevirtual 47, 3) := by decide +kernel
theorem dX7_parse_4 : decode cX7_parse 4 = .ok (.aload_n 0, 1) := by decide +kernel
theorem dX7_parse_5 : decode cX7_parse 5 = .ok (.iconst (-1), 1) := by decide +kernel
theorem dX7_parse_6 : decode cX7_parse 6 = .ok (.putfield 50, 3) := by decide +kernel
theorem dX7_parse_9 : decode cX7_parse 9 = .ok (.aload_n 0, 1) := by decide +kernel
theorem dX7_parse_10 : decode cX7_parse 10 = .ok (.iconst 0, 1) := by decide +kernel
theorem dX7_parse_11 : decode cX7_parse 11 = .ok (.putfield 53, 3) := by decide +kernel
theorem dX7_parse_14 : decode cX7_parse 14 = .ok (.aload_n 0, 1) := by decide +kernel
theorem dX7_parse_15 : decode cX7_parse 15 = .ok (.iconst 0, 1) := by decide +kernel
theorem dX7_parse_16 : decode cX7_parse 16 = .ok (.putfield 56, 3) := by decide +kernel
theorem dX7_parse_19 : decode cX7_parse 19 = .ok (.aload_n 0, 1) := by decide +kernel
theorem dX7_parse_20 : decode cX7_parse 20 = .ok (.iconst 0, 1) := by decide +kernel
theorem dX7_parse_21 : decode cX7_parse 21 = .ok (.putfield 59, 3) := by decide +kernel
theorem dX7_parse_24 : decode cX7_parse 24 = .ok (.aload_n 0, 1) := by decide +kernel
theorem dX7_parse_25 : decode cX7_parse 25 = .ok (.getfield 33, 3) := by decide +kernel
theorem dX7_parse_28 : decode cX7_parse 28 = .ok (.iconst (-1), 1) := by decide +kernel
theorem dX7_parse_29 : decode cX7_parse 29 = .ok (.invokestatic 62, 3) := by decide +kernel
theorem dX7_parse_32 : decode cX7_parse 32 = .ok (.iconst 0, 1) := by decide +kernel
theorem dX7_parse_33 : decode cX7_parse 33 = .ok (.istore_n 1, 1) := by decide +kernel
theorem dX7_parse_34 : decode cX7_parse 34 = .ok (.iload_n 1, 1) := by decide +kernel
theorem dX7_parse_35 : decode cX7_parse 35 = .ok (.aload_n 0, 1) := by decide +kernel
theorem dX7_parse_36 : decode cX7_parse 36 = .ok (.getfield 43, 3) := by decide +kernel
theorem dX7_parse_39 : decode cX7_parse 39 = .ok (.if_icmp .gt 28, 3) := by decide +kernel
theorem dX7_parse_42 : decode cX7_parse 42 = .ok (.aload_n 0, 1) := by decide +kernel
theorem dX7_parse_43 : decode cX7_parse 43 = .ok (.getfield 50, 3) := by decide +kernel
theorem dX7_parse_46 : decode cX7_parse 46 = .ok (.iconst (-1), 1) := by decide +kernel
theorem dX7_parse_47 : decode cX7_parse 47 = .ok (.if_icmp .ne 20, 3) := by decide +kernel
theorem dX7_parse_50 : decode cX7_parse 50 = .ok (.aload_n 0, 1) := by decide +kernel
theorem dX7_parse_51 : decode cX7_parse 51 = .ok (.invokevirtual 68, 3) := by decide +kernel
theorem dX7_parse_54 : decode cX7_parse 54 = .ok (.ifCond .eq 13, 3) := by decide +kernel
theorem dX7_parse_67 : decode cX7_parse 67 = .ok (.aload_n 0, 1) := by decide +kernel
theorem dX7_parse_68 : decode cX7_parse 68 = .ok (.getfield 50, 3) := by decide +kernel
theorem dX7_parse_71 : decode cX7_parse 71 = .ok (.ireturn, 1) := by decide +kernel
theorem dX7_compiled_0 : decode cX7_compiled 0 = .ok (.new 31, 3) := by decide +kernel
theorem dX7_compiled_3 : decode cX7_compiled 3 = .ok (.dup, 1) := by decide +kernel
theorem dX7_compiled_4 : decode cX7_compiled 4 = .ok (.invokespecial 75, 3) := by decide +kernel
theorem dX7_compiled_7 : decode cX7_compiled 7 = .ok (.astore_n 1, 1) := by decide +kernel
theorem dX7_compiled_8 : decode cX7_compiled 8 = .ok (.aload_n 1, 1) := by decide +kernel
theorem dX7_compiled_9 : decode cX7_compiled 9 = .ok (.aload_n 0, 1) := by decide +kernel
theorem dX7_compiled_10 : decode cX7_compiled 10 = .ok (.getfield 28, 3) := by decide +kernel
theorem dX7_compiled_13 : decode cX7_compiled 13 = .ok (.iconst 0, 1) := by decide +kernel
theorem dX7_compiled_14 : decode cX7_compiled 14 = .ok (.aload_n 0, 1) := by decide +kernel
theorem dX7_compiled_15 : decode cX7_compiled 15 = .ok (.getfield 56, 3) := by decide +kernel
theorem dX7_compiled_18 : decode cX7_compiled 18 = .ok (.invokestatic 76, 3) := by decide +kernel
theorem dX7_compiled_21 : decode cX7_compiled 21 = .ok (.invokestatic 82, 3) := by decide +kernel
theorem dX7_compiled_24 : decode cX7_compiled 24 = .ok (.putfield 86, 3) := by decide +kernel
theorem dX7_compiled_27 : decode cX7_compiled 27 = .ok (.aload_n 1, 1) := by decide +kernel
theorem dX7_compiled_28 : decode cX7_compiled 28 = .ok (.aload_n 0, 1) := by decide +kernel
theorem dX7_compiled_29 : decode cX7_compiled 29 = .ok (.getfield 33, 3) := by decide +kernel
theorem dX7_compiled_32 : decode cX7_compiled 32 = .ok (.invokevirtual 87, 3) := by decide +kernel
theorem dX7_compiled_35 : decode cX7_compiled 35 = .ok (.checkcast 88, 3) := by decide +kernel
theorem dX7_compiled_38 : decode cX7_compiled 38 = .ok (.putfield 92, 3) := by decide +kernel
theorem dX7_compiled_41 : decode cX7_compiled 41 = .ok (.aload_n 1, 1) := by decide +kernel
theorem dX7_compiled_42 : decode cX7_compiled 42 = .ok (.aload_n 0, 1) := by decide +kernel
theorem dX7_compiled_43 : decode cX7_compiled 43 = .ok (.getfield 36, 3) := by decide +kernel
theorem dX7_compiled_46 : decode cX7_compiled 46 = .ok (.invokevirtual 87, 3) := by decide +kernel
theorem dX7_compiled_49 : decode cX7_compiled 49 = .ok (.checkcast 88, 3) := by decide +kernel
theorem dX7_compiled_52 : decode cX7_compiled 52 = .ok (.putfield 93, 3) := by decide +kernel
theorem dX7_compiled_55 : decode cX7_compiled 55 = .ok (.aload_n 1, 1) := by decide +kernel
theorem dX7_compiled_56 : decode cX7_compiled 56 = .ok (.aload_n 0, 1) := by decide +kernel
theorem dX7_compiled_57 : decode cX7_compiled 57 = .ok (.getfield 39, 3) := by decide +kernel
theorem dX7_compiled_60 : decode cX7_compiled 60 = .ok (.iconst 0, 1) := by decide +kernel
theorem dX7_compiled_61 : decode cX7_compiled 61 = .ok (.aload_n 0, 1) := by decide +kernel
theorem dX7_compiled_62 : decode cX7_compiled 62 = .ok (.getfield 59, 3) := by decide +kernel
theorem dX7_compiled_65 : decode cX7_compiled 65 = .ok (.invokestatic 76, 3) := by decide +kernel
theorem dX7_compiled_68 : decode cX7_compiled 68 = .ok (.invokestatic 94, 3) := by decide +kernel
theorem dX7_compiled_71 : decode cX7_compiled 71 = .ok (.putfield 97, 3) := by decide +kernel
theorem dX7_compiled_74 : decode cX7_compiled 74 = .ok (.aload_n 1, 1) := by decide +kernel
theorem dX7_compiled_75 : decode cX7_compiled 75 = .ok (.areturn, 1) := by decide +kernel
theorem dX7_byteAt_0 : decode cX7_byteAt 0 = .ok (.iload_n 1, 1) := by decide +kernel
theorem dX7_byteAt_1 : decode cX7_byteAt 1 = .ok (.ifCond .lt 31, 3) := by decide +kernel
theorem dX7_byteAt_4 : decode cX7_byteAt 4 = .ok (.iload_n 1, 1) := by decide +kernel
theorem dX7_byteAt_5 : decode cX7_byteAt 5 = .ok (.aload_n 0, 1) := by decide +kernel
theorem dX7_byteAt_6 : decode cX7_byteAt 6 = .ok (.getfield 43, 3) := by decide +kernel
theorem dX7_byteAt_9 : decode cX7_byteAt 9 = .ok (.if_icmp .ge 23, 3) := by decide +kernel
theorem dX7_byteAt_32 : decode cX7_byteAt 32 = .ok (.iconst 0, 1) := by decide +kernel
theorem dX7_byteAt_33 : decode cX7_byteAt 33 = .ok (.ireturn, 1) := by decide +kernel
theorem dX7_scan_0 : decode cX7_scan 0 = .ok (.aload_n 0, 1) := by decide +kernel
theorem dX7_scan_1 : decode cX7_scan 1 = .ok (.iconst 0, 1) := by decide +kernel
theorem dX7_scan_2 : decode cX7_scan 2 = .ok (.putfield 106, 3) := by decide +kernel
theorem dX7_scan_5 : decode cX7_scan 5 = .ok (.iconst 0, 1) := by decide +kernel
theorem dX7_scan_6 : decode cX7_scan 6 = .ok (.istore_n 1, 1) := by decide +kernel
theorem dX7_scan_7 : decode cX7_scan 7 = .ok (.iconst 1, 1) := by decide +kernel
theorem dX7_scan_8 : decode cX7_scan 8 = .ok (.istore_n 2, 1) := by decide +kernel
theorem dX7_scan_9 : decode cX7_scan 9 = .ok (.iconst 0, 1) := by decide +kernel
theorem dX7_scan_10 : decode cX7_scan 10 = .ok (.istore_n 3, 1) := by decide +kernel
theorem dX7_scan_11 : decode cX7_scan 11 = .ok (.iload_n 3, 1) := by decide +kernel
theorem dX7_scan_12 : decode cX7_scan 12 = .ok (.aload_n 0, 1) := by decide +kernel
theorem dX7_scan_13 : decode cX7_scan 13 = .ok (.getfield 43, 3) := by decide +kernel
theorem dX7_scan_16 : decode cX7_scan 16 = .ok (.if_icmp .gt 77, 3) := by decide +kernel
theorem dX7_scan_19 : decode cX7_scan 19 = .ok (.iload_n 2, 1) := by decide +kernel
theorem dX7_scan_20 : decode cX7_scan 20 = .ok (.ifCond .eq 73, 3) := by decide +kernel
theorem dX7_scan_23 : decode cX7_scan 23 = .ok (.iload_n 2, 1) := by decide +kernel
theorem dX7_scan_24 : decode cX7_scan 24 = .ok (.iconst 3, 1) := by decide +kernel
theorem dX7_scan_25 : decode cX7_scan 25 = .ok (.if_icmp .eq 68, 3) := by decide +kernel
theorem dX7_scan_28 : decode cX7_scan 28 = .ok (.iload_n 1, 1) := by decide +kernel
theorem dX7_scan_29 : decode cX7_scan 29 = .ok (.aload_n 0, 1) := by decide +kernel
theorem dX7_scan_30 : decode cX7_scan 30 = .ok (.getfield 43, 3) := by decide +kernel
theorem dX7_scan_33 : decode cX7_scan 33 = .ok (.if_icmp .ge 29, 3) := by decide +kernel
theorem dX7_scan_62 : decode cX7_scan 62 = .ok (.aload_n 0, 1) := by decide +kernel
theorem dX7_scan_63 : decode cX7_scan 63 = .ok (.iload_n 1, 1) := by decide +kernel
theorem dX7_scan_64 : decode cX7_scan 64 = .ok (.invokevirtual 112, 3) := by decide +kernel
theorem dX7_scan_67 : decode cX7_scan 67 = .ok (.istore_n 2, 1) := by decide +kernel
theorem dX7_scan_68 : decode cX7_scan 68 = .ok (.aload_n 0, 1) := by decide +kernel
theorem dX7_scan_69 : decode cX7_scan 69 = .ok (.iload_n 1, 1) := by decide +kernel
theorem dX7_scan_70 : decode cX7_scan 70 = .ok (.iload_n 2, 1) := by decide +kernel
theorem dX7_scan_71 : decode cX7_scan 71 = .ok (.invokevirtual 115, 3) := by decide +kernel
theorem dX7_scan_74 : decode cX7_scan 74 = .ok (.istore 4, 2) := by decide +kernel
theorem dX7_scan_76 : decode cX7_scan 76 = .ok (.aload_n 0, 1) := by decide +kernel
theorem dX7_scan_77 : decode cX7_scan 77 = .ok (.iload_n 2, 1) := by decide +kernel
theorem dX7_scan_78 : decode cX7_scan 78 = .ok (.iload_n 1, 1) := by decide +kernel
theorem dX7_scan_79 : decode cX7_scan 79 = .ok (.iload 4, 2) := by decide +kernel
theorem dX7_scan_81 : decode cX7_scan 81 = .ok (.invokevirtual 118, 3) := by decide +kernel
theorem dX7_scan_84 : decode cX7_scan 84 = .ok (.iload 4, 2) := by decide +kernel
theorem dX7_scan_86 : decode cX7_scan 86 = .ok (.istore_n 1, 1) := by decide +kernel
theorem dX7_scan_87 : decode cX7_scan 87 = .ok (.iinc 3 1, 3) := by decide +kernel
theorem dX7_scan_90 : decode cX7_scan 90 = .ok (.goto (-79), 3) := by decide +kernel
theorem dX7_scan_93 : decode cX7_scan 93 = .ok (.return_, 1) := by decide +kernel
theorem dX7_kindAt_0 : decode cX7_kindAt 0 = .ok (.aload_n 0, 1) := by decide +kernel
theorem dX7_kindAt_1 : decode cX7_kindAt 1 = .ok (.iload_n 1, 1) := by decide +kernel
theorem dX7_kindAt_2 : decode cX7_kindAt 2 = .ok (.invokevirtual 109, 3) := by decide +kernel
theorem dX7_kindAt_5 : decode cX7_kindAt 5 = .ok (.istore_n 2, 1) := by decide +kernel
theorem dX7_kindAt_6 : decode cX7_kindAt 6 = .ok (.iload_n 1, 1) := by decide +kernel
theorem dX7_kindAt_7 : decode cX7_kindAt 7 = .ok (.aload_n 0, 1) := by decide +kernel
theorem dX7_kindAt_8 : decode cX7_kindAt 8 = .ok (.getfield 43, 3) := by decide +kernel
theorem dX7_kindAt_11 : decode cX7_kindAt 11 = .ok (.if_icmp .lt 5, 3) := by decide +kernel
theorem dX7_kindAt_14 : decode cX7_kindAt 14 = .ok (.iconst 0, 1) := by decide +kernel
theorem dX7_kindAt_15 : decode cX7_kindAt 15 = .ok (.ireturn, 1) := by decide +kernel
theorem dX7_stopAt_0 : decode cX7_stopAt 0 = .ok (.iload_n 1, 1) := by decide +kernel
theorem dX7_stopAt_1 : decode cX7_stopAt 1 = .ok (.iconst 1, 1) := by decide +kernel
theorem dX7_stopAt_2 : decode cX7_stopAt 2 = .ok (.iadd, 1) := by decide +kernel
theorem dX7_stopAt_3 : decode cX7_stopAt 3 = .ok (.istore_n 3, 1) := by decide +kernel
theorem dX7_stopAt_4 : decode cX7_stopAt 4 = .ok (.iload_n 3, 1) := by decide +kernel
theorem dX7_stopAt_5 : decode cX7_stopAt 5 = .ok (.aload_n 0, 1) := by decide +kernel
theorem dX7_stopAt_6 : decode cX7_stopAt 6 = .ok (.getfield 43, 3) := by decide +kernel
theorem dX7_stopAt_9 : decode cX7_stopAt 9 = .ok (.if_icmp .ge 25, 3) := by decide +kernel
theorem dX7_stopAt_34 : decode cX7_stopAt 34 = .ok (.iload_n 3, 1) := by decide +kernel
theorem dX7_stopAt_35 : decode cX7_stopAt 35 = .ok (.aload_n 0, 1) := by decide +kernel
theorem dX7_stopAt_36 : decode cX7_stopAt 36 = .ok (.getfield 43, 3) := by decide +kernel
theorem dX7_stopAt_39 : decode cX7_stopAt 39 = .ok (.if_icmp .ge 25, 3) := by decide +kernel
theorem dX7_stopAt_64 : decode cX7_stopAt 64 = .ok (.iload_n 3, 1) := by decide +kernel
theorem dX7_stopAt_65 : decode cX7_stopAt 65 = .ok (.ireturn, 1) := by decide +kernel
theorem dX7_addToken_0 : decode cX7_addToken 0 = .ok (.aload_n 0, 1) := by decide +kernel
theorem dX7_addToken_1 : decode cX7_addToken 1 = .ok (.getfield 106, 3) := by decide +kernel
theorem dX7_addToken_4 : decode cX7_addToken 4 = .ok (.ifCond .lt 93, 3) := by decide +kernel
theorem dX7_addToken_7 : decode cX7_addToken 7 = .ok (.aload_n 0, 1) := by decide +kernel
theorem dX7_addToken_8 : decode cX7_addToken 8 = .ok (.getfield 106, 3) := by decide +kernel
theorem dX7_addToken_11 : decode cX7_addToken 11 = .ok (.aload_n 0, 1) := by decide +kernel
theorem dX7_addToken_12 : decode cX7_addToken 12 = .ok (.getfield 15, 3) := by decide +kernel
theorem dX7_addToken_15 : decode cX7_addToken 15 = .ok (.arraylength, 1) := by decide +kernel
theorem dX7_addToken_16 : decode cX7_addToken 16 = .ok (.if_icmp .ge 81, 3) := by decide +kernel
theorem dX7_addToken_19 : decode cX7_addToken 19 = .ok (.aload_n 0, 1) := by decide +kernel
theorem dX7_addToken_20 : decode cX7_addToken 20 = .ok (.getfield 15, 3) := by decide +kernel
theorem dX7_addToken_23 : decode cX7_addToken 23 = .ok (.aload_n 0, 1) := by decide +kernel
theorem dX7_addToken_24 : decode cX7_addToken 24 = .ok (.getfield 106, 3) := by decide +kernel
theorem dX7_addToken_27 : decode cX7_addToken 27 = .ok (.iload_n 1, 1) := by decide +kernel
theorem dX7_addToken_28 : decode cX7_addToken 28 = .ok (.iastore, 1) := by decide +kernel
theorem dX7_addToken_29 : decode cX7_addToken 29 = .ok (.aload_n 0, 1) := by decide +kernel
theorem dX7_addToken_30 : decode cX7_addToken 30 = .ok (.getfield 19, 3) := by decide +kernel
theorem dX7_addToken_33 : decode cX7_addToken 33 = .ok (.aload_n 0, 1) := by decide +kernel
theorem dX7_addToken_34 : decode cX7_addToken 34 = .ok (.getfield 106, 3) := by decide +kernel
theorem dX7_addToken_37 : decode cX7_addToken 37 = .ok (.iload_n 2, 1) := by decide +kernel
theorem dX7_addToken_38 : decode cX7_addToken 38 = .ok (.iastore, 1) := by decide +kernel
theorem dX7_addToken_39 : decode cX7_addToken 39 = .ok (.aload_n 0, 1) := by decide +kernel
theorem dX7_addToken_40 : decode cX7_addToken 40 = .ok (.getfield 22, 3) := by decide +kernel
theorem dX7_addToken_43 : decode cX7_addToken 43 = .ok (.aload_n 0, 1) := by decide +kernel
theorem dX7_addToken_44 : decode cX7_addToken 44 = .ok (.getfield 106, 3) := by decide +kernel
theorem dX7_addToken_47 : decode cX7_addToken 47 = .ok (.iload_n 3, 1) := by decide +kernel
theorem dX7_addToken_48 : decode cX7_addToken 48 = .ok (.iastore, 1) := by decide +kernel
theorem dX7_addToken_49 : decode cX7_addToken 49 = .ok (.aload_n 0, 1) := by decide +kernel
theorem dX7_addToken_50 : decode cX7_addToken 50 = .ok (.getfield 25, 3) := by decide +kernel
theorem dX7_addToken_53 : decode cX7_addToken 53 = .ok (.aload_n 0, 1) := by decide +kernel
theorem dX7_addToken_54 : decode cX7_addToken 54 = .ok (.getfield 106, 3) := by decide +kernel
theorem dX7_addToken_57 : decode cX7_addToken 57 = .ok (.iload_n 1, 1) := by decide +kernel
theorem dX7_addToken_58 : decode cX7_addToken 58 = .ok (.iconst 1, 1) := by decide +kernel
theorem dX7_addToken_59 : decode cX7_addToken 59 = .ok (.if_icmp .ne 12, 3) := by decide +kernel
theorem dX7_addToken_71 : decode cX7_addToken 71 = .ok (.iload_n 1, 1) := by decide +kernel
theorem dX7_addToken_72 : decode cX7_addToken 72 = .ok (.iconst 2, 1) := by decide +kernel
theorem dX7_addToken_73 : decode cX7_addToken 73 = .ok (.if_icmp .ne 12, 3) := by decide +kernel
theorem dX7_addToken_85 : decode cX7_addToken 85 = .ok (.iconst (-1), 1) := by decide +kernel
theorem dX7_addToken_86 : decode cX7_addToken 86 = .ok (.iastore, 1) := by decide +kernel
theorem dX7_addToken_87 : decode cX7_addToken 87 = .ok (.aload_n 0, 1) := by decide +kernel
theorem dX7_addToken_88 : decode cX7_addToken 88 = .ok (.dup, 1) := by decide +kernel
theorem dX7_addToken_89 : decode cX7_addToken 89 = .ok (.getfield 106, 3) := by decide +kernel
theorem dX7_addToken_92 : decode cX7_addToken 92 = .ok (.iconst 1, 1) := by decide +kernel
theorem dX7_addToken_93 : decode cX7_addToken 93 = .ok (.iadd, 1) := by decide +kernel
theorem dX7_addToken_94 : decode cX7_addToken 94 = .ok (.putfield 106, 3) := by decide +kernel
theorem dX7_addToken_97 : decode cX7_addToken 97 = .ok (.return_, 1) := by decide +kernel
theorem dX7_kind_0 : decode cX7_kind 0 = .ok (.aload_n 0, 1) := by decide +kernel
theorem dX7_kind_1 : decode cX7_kind 1 = .ok (.getfield 53, 3) := by decide +kernel
theorem dX7_kind_4 : decode cX7_kind 4 = .ok (.ifCond .lt 38, 3) := by decide +kernel
theorem dX7_kind_7 : decode cX7_kind 7 = .ok (.aload_n 0, 1) := by decide +kernel
theorem dX7_kind_8 : decode cX7_kind 8 = .ok (.getfield 53, 3) := by decide +kernel
theorem dX7_kind_11 : decode cX7_kind 11 = .ok (.aload_n 0, 1) := by decide +kernel
theorem dX7_kind_12 : decode cX7_kind 12 = .ok (.getfield 106, 3) := by decide +kernel
theorem dX7_kind_15 : decode cX7_kind 15 = .ok (.if_icmp .ge 27, 3) := by decide +kernel
theorem dX7_kind_18 : decode cX7_kind 18 = .ok (.aload_n 0, 1) := by decide +kernel
theorem dX7_kind_19 : decode cX7_kind 19 = .ok (.getfield 53, 3) := by decide +kernel
theorem dX7_kind_22 : decode cX7_kind 22 = .ok (.aload_n 0, 1) := by decide +kernel
theorem dX7_kind_23 : decode cX7_kind 23 = .ok (.getfield 15, 3) := by decide +kernel
theorem dX7_kind_26 : decode cX7_kind 26 = .ok (.arraylength, 1) := by decide +kernel
theorem dX7_kind_27 : decode cX7_kind 27 = .ok (.if_icmp .ge 15, 3) := by decide +kernel
theorem dX7_kind_30 : decode cX7_kind 30 = .ok (.aload_n 0, 1) := by decide +kernel
theorem dX7_kind_31 : decode cX7_kind 31 = .ok (.getfield 15, 3) := by decide +kernel
theorem dX7_kind_34 : decode cX7_kind 34 = .ok (.aload_n 0, 1) := by decide +kernel
theorem dX7_kind_35 : decode cX7_kind 35 = .ok (.getfield 53, 3) := by decide +kernel
theorem dX7_kind_38 : decode cX7_kind 38 = .ok (.iaload, 1) := by decide +kernel
theorem dX7_kind_39 : decode cX7_kind 39 = .ok (.goto 4, 3) := by decide +kernel
theorem dX7_kind_43 : decode cX7_kind 43 = .ok (.ireturn, 1) := by decide +kernel
theorem dX8_init_0 : decode cX8_init 0 = .ok (.aload_n 0, 1) := by decide +kernel
theorem dX8_init_1 : decode cX8_init 1 = .ok (.invokespecial 3, 3) := by decide +kernel
theorem dX8_init_4 : decode cX8_init 4 = .ok (.aload_n 0, 1) := by decide +kernel
theorem dX8_init_5 : decode cX8_init 5 = .ok (.bipush 12, 2) := by decide +kernel
theorem dX8_init_7 : decode cX8_init 7 = .ok (.anewarray 11, 3) := by decide +kernel
theorem dX8_init_10 : decode cX8_init 10 = .ok (.putfield 13, 3) := by decide +kernel
theorem dX8_init_13 : decode cX8_init 13 = .ok (.aload_n 0, 1) := by decide +kernel
theorem dX8_init_14 : decode cX8_init 14 = .ok (.bipush 20, 2) := by decide +kernel
theorem dX8_init_16 : decode cX8_init 16 = .ok (.newarray .int, 2) := by decide +kernel
theorem dX8_init_18 : decode cX8_init 18 = .ok (.putfield 17, 3) := by decide +kernel
theorem dX8_init_21 : decode cX8_init 21 = .ok (.aload_n 0, 1) := by decide +kernel
theorem dX8_init_22 : decode cX8_init 22 = .ok (.bipush 20, 2) := by decide +kernel
theorem dX8_init_24 : decode cX8_init 24 = .ok (.newarray .int, 2) := by decide +kernel
theorem dX8_init_26 : decode cX8_init 26 = .ok (.putfield 21, 3) := by decide +kernel
theorem dX8_init_29 : decode cX8_init 29 = .ok (.aload_n 0, 1) := by decide +kernel
theorem dX8_init_30 : decode cX8_init 30 = .ok (.bipush 20, 2) := by decide +kernel
theorem dX8_init_32 : decode cX8_init 32 = .ok (.newarray .int, 2) := by decide +kernel
theorem dX8_init_34 : decode cX8_init 34 = .ok (.putfield 24, 3) := by decide +kernel
theorem dX8_init_37 : decode cX8_init 37 = .ok (.aload_n 0, 1) := by decide +kernel
theorem dX8_init_38 : decode cX8_init 38 = .ok (.bipush 9, 2) := by decide +kernel
theorem dX8_init_40 : decode cX8_init 40 = .ok (.newarray .int, 2) := by decide +kernel
theorem dX8_init_42 : decode cX8_init 42 = .ok (.putfield 27, 3) := by decide +kernel
theorem dX8_init_45 : decode cX8_init 45 = .ok (.aload_n 0, 1) := by decide +kernel
theorem dX8_init_46 : decode cX8_init 46 = .ok (.bipush 64, 2) := by decide +kernel
theorem dX8_init_48 : decode cX8_init 48 = .ok (.newarray .int, 2) := by decide +kernel
theorem dX8_init_50 : decode cX8_init 50 = .ok (.putfield 30, 3) := by decide +kernel
theorem dX8_init_53 : decode cX8_init 53 = .ok (.return_, 1) := by decide +kernel
theorem dX8_hasRoomForSheet_0 : decode cX8_hasRoomForSheet 0 = .ok (.aload_n 0, 1) := by decide +kernel
theorem dX8_hasRoomForSheet_1 : decode cX8_hasRoomForSheet 1 = .ok (.getfield 33, 3) := by decide +kernel
theorem dX8_hasRoomForSheet_4 : decode cX8_hasRoomForSheet 4 = .ok (.bipush 12, 2) := by decide +kernel
theorem dX8_hasRoomForSheet_6 : decode cX8_hasRoomForSheet 6 = .ok (.if_icmp .ge 7, 3) := by decide +kernel
theorem dX8_hasRoomForSheet_9 : decode cX8_hasRoomForSheet 9 = .ok (.iconst 1, 1) := by decide +kernel
theorem dX8_hasRoomForSheet_10 : decode cX8_hasRoomForSheet 10 = .ok (.goto 4, 3) := by decide +kernel
theorem dX8_hasRoomForSheet_14 : decode cX8_hasRoomForSheet 14 = .ok (.ireturn, 1) := by decide +kernel
theorem dX8_keep_0 : decode cX8_keep 0 = .ok (.aload_n 0, 1) := by decide +kernel
theorem dX8_keep_1 : decode cX8_keep 1 = .ok (.getfield 33, 3) := by decide +kernel
theorem dX8_keep_4 : decode cX8_keep 4 = .ok (.ifCond .lt 12, 3) := by decide +kernel
theorem dX8_keep_7 : decode cX8_keep 7 = .ok (.aload_n 0, 1) := by decide +kernel
theorem dX8_keep_8 : decode cX8_keep 8 = .ok (.getfield 33, 3) := by decide +kernel
theorem dX8_keep_11 : decode cX8_keep 11 = .ok (.bipush 12, 2) := by decide +kernel
theorem dX8_keep_13 : decode cX8_keep 13 = .ok (.if_icmp .lt 5, 3) := by decide +kernel
theorem dX8_keep_18 : decode cX8_keep 18 = .ok (.aload_n 0, 1) := by decide +kernel
theorem dX8_keep_19 : decode cX8_keep 19 = .ok (.getfield 13, 3) := by decide +kernel
theorem dX8_keep_22 : decode cX8_keep 22 = .ok (.aload_n 0, 1) := by decide +kernel
theorem dX8_keep_23 : decode cX8_keep 23 = .ok (.getfield 33, 3) := by decide +kernel
theorem dX8_keep_26 : decode cX8_keep 26 = .ok (.aload_n 1, 1) := by decide +kernel
theorem dX8_keep_27 : decode cX8_keep 27 = .ok (.aastore, 1) := by decide +kernel
theorem dX8_keep_28 : decode cX8_keep 28 = .ok (.aload_n 0, 1) := by decide +kernel
theorem dX8_keep_29 : decode cX8_keep 29 = .ok (.dup, 1) := by decide +kernel
theorem dX8_keep_30 : decode cX8_keep 30 = .ok (.getfield 33, 3) := by decide +kernel
theorem dX8_keep_33 : decode cX8_keep 33 = .ok (.iconst 1, 1) := by decide +kernel
theorem dX8_keep_34 : decode cX8_keep 34 = .ok (.iadd, 1) := by decide +kernel
theorem dX8_keep_35 : decode cX8_keep 35 = .ok (.putfield 33, 3) := by decide +kernel
theorem dX8_keep_38 : decode cX8_keep 38 = .ok (.aload_n 0, 1) := by decide +kernel
theorem dX8_keep_39 : decode cX8_keep 39 = .ok (.getfield 33, 3) := by decide +kernel
theorem dX8_keep_42 : decode cX8_keep 42 = .ok (.iconst 1, 1) := by decide +kernel
theorem dX8_keep_43 : decode cX8_keep 43 = .ok (.isub, 1) := by decide +kernel
theorem dX8_keep_44 : decode cX8_keep 44 = .ok (.ireturn, 1) := by decide +kernel
theorem dX8_put_0 : decode cX8_put 0 = .ok (.iload_n 1, 1) := by decide +kernel
theorem dX8_put_1 : decode cX8_put 1 = .ok (.ifCond .lt 27, 3) := by decide +kernel
theorem dX8_put_4 : decode cX8_put 4 = .ok (.iload_n 1, 1) := by decide +kernel
theorem dX8_put_5 : decode cX8_put 5 = .ok (.aload_n 0, 1) := by decide +kernel
theorem dX8_put_6 : decode cX8_put 6 = .ok (.getfield 33, 3) := by decide +kernel
theorem dX8_put_9 : decode cX8_put 9 = .ok (.if_icmp .ge 19, 3) := by decide +kernel
theorem dX8_put_28 : decode cX8_put 28 = .ok (.iconst (-1), 1) := by decide +kernel
theorem dX8_put_29 : decode cX8_put 29 = .ok (.ireturn, 1) := by decide +kernel
theorem dX8_inForce_0 : decode cX8_inForce 0 = .ok (.aload_n 0, 1) := by decide +kernel
theorem dX8_inForce_1 : decode cX8_inForce 1 = .ok (.getfield 37, 3) := by decide +kernel
theorem dX8_inForce_4 : decode cX8_inForce 4 = .ok (.iconst 1, 1) := by decide +kernel
theorem dX8_inForce_5 : decode cX8_inForce 5 = .ok (.isub, 1) := by decide +kernel
theorem dX8_inForce_6 : decode cX8_inForce 6 = .ok (.istore 4, 2) := by decide +kernel
theorem dX8_inForce_8 : decode cX8_inForce 8 = .ok (.iload 4, 2) := by decide +kernel
theorem dX8_inForce_10 : decode cX8_inForce 10 = .ok (.ifCond .lt 41, 3) := by decide +kernel
theorem dX8_inForce_51 : decode cX8_inForce 51 = .ok (.iconst (-1), 1) := by decide +kernel
theorem dX8_inForce_52 : decode cX8_inForce 52 = .ok (.ireturn, 1) := by decide +kernel
theorem dX8_skips_0 : decode cX8_skips 0 = .ok (.iconst 0, 1) := by decide +kernel
theorem dX8_skips_1 : decode cX8_skips 1 = .ok (.istore 5, 2) := by decide +kernel
theorem dX8_skips_3 : decode cX8_skips 3 = .ok (.iload 5, 2) := by decide +kernel
theorem dX8_skips_5 : decode cX8_skips 5 = .ok (.aload_n 0, 1) := by decide +kernel
theorem dX8_skips_6 : decode cX8_skips 6 = .ok (.getfield 37, 3) := by decide +kernel
theorem dX8_skips_9 : decode cX8_skips 9 = .ok (.if_icmp .ge 36, 3) := by decide +kernel
theorem dX8_skips_12 : decode cX8_skips 12 = .ok (.aload_n 0, 1) := by decide +kernel
theorem dX8_skips_13 : decode cX8_skips 13 = .ok (.iload 5, 2) := by decide +kernel
theorem dX8_skips_15 : decode cX8_skips 15 = .ok (.iload_n 3, 1) := by decide +kernel
theorem dX8_skips_16 : decode cX8_skips 16 = .ok (.iload 4, 2) := by decide +kernel
theorem dX8_skips_18 : decode cX8_skips 18 = .ok (.invokevirtual 40, 3) := by decide +kernel
theorem dX8_skips_21 : decode cX8_skips 21 = .ok (.astore 6, 2) := by decide +kernel
theorem dX8_skips_23 : decode cX8_skips 23 = .ok (.aload 6, 2) := by decide +kernel
theorem dX8_skips_25 : decode cX8_skips 25 = .ok (.ifnull 14, 3) := by decide +kernel
theorem dX8_skips_28 : decode cX8_skips 28 = .ok (.aload 6, 2) := by decide +kernel
theorem dX8_skips_30 : decode cX8_skips 30 = .ok (.lload_n 1, 1) := by decide +kernel
theorem dX8_skips_31 : decode cX8_skips 31 = .ok (.invokevirtual 48, 3) := by decide +kernel
theorem dX8_skips_34 : decode cX8_skips 34 = .ok (.ifCond .eq 5, 3) := by decide +kernel
theorem dX8_skips_37 : decode cX8_skips 37 = .ok (.iconst 1, 1) := by decide +kernel
theorem dX8_skips_38 : decode cX8_skips 38 = .ok (.ireturn, 1) := by decide +kernel
theorem dX8_skips_39 : decode cX8_skips 39 = .ok (.iinc 5 1, 3) := by decide +kernel
theorem dX8_skips_42 : decode cX8_skips 42 = .ok (.goto (-39), 3) := by decide +kernel
theorem dX8_skips_45 : decode cX8_skips 45 = .ok (.iconst 0, 1) := by decide +kernel
theorem dX8_skips_46 : decode cX8_skips 46 = .ok (.ireturn, 1) := by decide +kernel
theorem dX8_valueOf_0 : decode cX8_valueOf 0 = .ok (.iload_n 1, 1) := by decide +kernel
theorem dX8_valueOf_1 : decode cX8_valueOf 1 = .ok (.ifCond .lt 11, 3) := by decide +kernel
theorem dX8_valueOf_4 : decode cX8_valueOf 4 = .ok (.iload_n 1, 1) := by decide +kernel
theorem dX8_valueOf_5 : decode cX8_valueOf 5 = .ok (.getstatic 58, 3) := by decide +kernel
theorem dX8_valueOf_8 : decode cX8_valueOf 8 = .ok (.arraylength, 1) := by decide +kernel
theorem dX8_valueOf_9 : decode cX8_valueOf 9 = .ok (.if_icmp .lt 5, 3) := by decide +kernel
theorem dX8_valueOf_14 : decode cX8_valueOf 14 = .ok (.aload_n 0, 1) := by decide +kernel
theorem dX8_valueOf_15 : decode cX8_valueOf 15 = .ok (.iload_n 1, 1) := by decide +kernel
theorem dX8_valueOf_16 : decode cX8_valueOf 16 = .ok (.iload_n 2, 1) := by decide +kernel
theorem dX8_valueOf_17 : decode cX8_valueOf 17 = .ok (.iload_n 3, 1) := by decide +kernel
theorem dX8_valueOf_18 : decode cX8_valueOf 18 = .ok (.invokevirtual 61, 3) := by decide +kernel
theorem dX8_valueOf_21 : decode cX8_valueOf 21 = .ok (.istore 4, 2) := by decide +kernel
theorem dX8_valueOf_23 : decode cX8_valueOf 23 = .ok (.iload 4, 2) := by decide +kernel
theorem dX8_valueOf_25 : decode cX8_valueOf 25 = .ok (.ifCond .lt 20, 3) := by decide +kernel
theorem dX8_valueOf_45 : decode cX8_valueOf 45 = .ok (.aconst_null, 1) := by decide +kernel
theorem dX8_valueOf_46 : decode cX8_valueOf 46 = .ok (.astore 5, 2) := by decide +kernel
theorem dX8_valueOf_48 : decode cX8_valueOf 48 = .ok (.aload 5, 2) := by decide +kernel
theorem dX8_valueOf_50 : decode cX8_valueOf 50 = .ok (.ifnonnull 11, 3) := by decide +kernel
theorem dX8_valueOf_53 : decode cX8_valueOf 53 = .ok (.getstatic 58, 3) := by decide +kernel
theorem dX8_valueOf_56 : decode cX8_valueOf 56 = .ok (.iload_n 1, 1) := by decide +kernel
theorem dX8_valueOf_57 : decode cX8_valueOf 57 = .ok (.iaload, 1) := by decide +kernel
theorem dX8_valueOf_58 : decode cX8_valueOf 58 = .ok (.goto 10, 3) := by decide +kernel
theorem dX8_valueOf_68 : decode cX8_valueOf 68 = .ok (.ireturn, 1) := by decide +kernel
theorem dX9_init_0 : decode cX9_init 0 = .ok (.aload_n 0, 1) := by decide +kernel
theorem dX9_init_1 : decode cX9_init 1 = .ok (.invokespecial 3, 3) := by decide +kernel
theorem dX9_init_4 : decode cX9_init 4 = .ok (.return_, 1) := by decide +kernel
theorem dX9_sortOf_0 : decode cX9_sortOf 0 = .ok (.iload_n 0, 1) := by decide +kernel
theorem dX9_sortOf_1 : decode cX9_sortOf 1 = .ok (.ifCond .lt 10, 3) := by decide +kernel
theorem dX9_sortOf_4 : decode cX9_sortOf 4 = .ok (.iload_n 0, 1) := by decide +kernel
theorem dX9_sortOf_5 : decode cX9_sortOf 5 = .ok (.iconst 4, 1) := by decide +kernel
theorem dX9_sortOf_6 : decode cX9_sortOf 6 = .ok (.if_icmp .gt 5, 3) := by decide +kernel
theorem dX9_sortOf_9 : decode cX9_sortOf 9 = .ok (.iload_n 0, 1) := by decide +kernel
theorem dX9_sortOf_10 : decode cX9_sortOf 10 = .ok (.ireturn, 1) := by decide +kernel
theorem dX9_sortOf_11 : decode cX9_sortOf 11 = .ok (.iload_n 0, 1) := by decide +kernel
theorem dX9_sortOf_12 : decode cX9_sortOf 12 = .ok (.bipush 10, 2) := by decide +kernel
theorem dX9_sortOf_14 : decode cX9_sortOf 14 = .ok (.idiv, 1) := by decide +kernel
theorem dX9_sortOf_15 : decode cX9_sortOf 15 = .ok (.istore_n 1, 1) := by decide +kernel
theorem dX9_sortOf_16 : decode cX9_sortOf 16 = .ok (.iload_n 0, 1) := by decide +kernel
theorem dX9_sortOf_17 : decode cX9_sortOf 17 = .ok (.bipush 10, 2) := by decide +kernel
theorem dX9_sortOf_19 : decode cX9_sortOf 19 = .ok (.irem, 1) := by decide +kernel
theorem dX9_sortOf_20 : decode cX9_sortOf 20 = .ok (.istore_n 2, 1) := by decide +kernel
theorem dX9_sortOf_21 : decode cX9_sortOf 21 = .ok (.iload_n 0, 1) := by decide +kernel
theorem dX9_sortOf_22 : decode cX9_sortOf 22 = .ok (.bipush 10, 2) := by decide +kernel
theorem dX9_sortOf_24 : decode cX9_sortOf 24 = .ok (.if_icmp .lt 25, 3) := by decide +kernel
theorem dX9_sortOf_27 : decode cX9_sortOf 27 = .ok (.iload_n 1, 1) := by decide +kernel
theorem dX9_sortOf_28 : decode cX9_sortOf 28 = .ok (.iconst 3, 1) := by decide +kernel
theorem dX9_sortOf_29 : decode cX9_sortOf 29 = .ok (.if_icmp .gt 20, 3) := by decide +kernel
theorem dX9_sortOf_32 : decode cX9_sortOf 32 = .ok (.iload_n 2, 1) := by decide +kernel
theorem dX9_sortOf_33 : decode cX9_sortOf 33 = .ok (.iconst 2, 1) := by decide +kernel
theorem dX9_sortOf_34 : decode cX9_sortOf 34 = .ok (.if_icmp .gt 15, 3) := by decide +kernel
theorem dX9_sortOf_37 : decode cX9_sortOf 37 = .ok (.iconst 5, 1) := by decide +kernel
theorem dX9_sortOf_38 : decode cX9_sortOf 38 = .ok (.iconst 3, 1) := by decide +kernel
theorem dX9_sortOf_39 : decode cX9_sortOf 39 = .ok (.iload_n 1, 1) := by decide +kernel
theorem dX9_sortOf_40 : decode cX9_sortOf 40 = .ok (.iconst 1, 1) := by decide +kernel
theorem dX9_sortOf_41 : decode cX9_sortOf 41 = .ok (.isub, 1) := by decide +kernel
theorem dX9_sortOf_42 : decode cX9_sortOf 42 = .ok (.imul, 1) := by decide +kernel
theorem dX9_sortOf_43 : decode cX9_sortOf 43 = .ok (.iadd, 1) := by decide +kernel
theorem dX9_sortOf_44 : decode cX9_sortOf 44 = .ok (.iload_n 2, 1) := by decide +kernel
theorem dX9_sortOf_45 : decode cX9_sortOf 45 = .ok (.iadd, 1) := by decide +kernel
theorem dX9_sortOf_46 : decode cX9_sortOf 46 = .ok (.goto 4, 3) := by decide +kernel
theorem dX9_sortOf_49 : decode cX9_sortOf 49 = .ok (.iconst (-1), 1) := by decide +kernel
theorem dX9_sortOf_50 : decode cX9_sortOf 50 = .ok (.ireturn, 1) := by decide +kernel
theorem dX10_init_0 : decode cX10_init 0 = .ok (.aload_n 0, 1) := by decide +kernel
theorem dX10_init_1 : decode cX10_init 1 = .ok (.invokespecial 3, 3) := by decide +kernel
theorem dX10_init_4 : decode cX10_init 4 = .ok (.aload_n 0, 1) := by decide +kernel
theorem dX10_init_5 : decode cX10_init 5 = .ok (.bipush 30, 2) := by decide +kernel
theorem dX10_init_7 : decode cX10_init 7 = .ok (.newarray .int, 2) := by decide +kernel
theorem dX10_init_9 : decode cX10_init 9 = .ok (.putfield 11, 3) := by decide +kernel
theorem dX10_init_12 : decode cX10_init 12 = .ok (.aload_n 0, 1) := by decide +kernel
theorem dX10_init_13 : decode cX10_init 13 = .ok (.bipush 31, 2) := by decide +kernel
theorem dX10_init_15 : decode cX10_init 15 = .ok (.newarray .int, 2) := by decide +kernel
theorem dX10_init_17 : decode cX10_init 17 = .ok (.putfield 15, 3) := by decide +kernel
theorem dX10_init_20 : decode cX10_init 20 = .ok (.return_, 1) := by decide +kernel
theorem dX10_add_0 : decode cX10_add 0 = .ok (.aload_n 0, 1) := by decide +kernel
theorem dX10_add_1 : decode cX10_add 1 = .ok (.getfield 18, 3) := by decide +kernel
theorem dX10_add_4 : decode cX10_add 4 = .ok (.ifCond .lt 12, 3) := by decide +kernel
theorem dX10_add_7 : decode cX10_add 7 = .ok (.aload_n 0, 1) := by decide +kernel
theorem dX10_add_8 : decode cX10_add 8 = .ok (.getfield 18, 3) := by decide +kernel
theorem dX10_add_11 : decode cX10_add 11 = .ok (.bipush 30, 2) := by decide +kernel
theorem dX10_add_13 : decode cX10_add 13 = .ok (.if_icmp .lt 5, 3) := by decide +kernel
theorem dX10_add_18 : decode cX10_add 18 = .ok (.aload_n 0, 1) := by decide +kernel
theorem dX10_add_19 : decode cX10_add 19 = .ok (.getfield 11, 3) := by decide +kernel
theorem dX10_add_22 : decode cX10_add 22 = .ok (.aload_n 0, 1) := by decide +kernel
theorem dX10_add_23 : decode cX10_add 23 = .ok (.getfield 18, 3) := by decide +kernel
theorem dX10_add_26 : decode cX10_add 26 = .ok (.iload_n 1, 1) := by decide +kernel
theorem dX10_add_27 : decode cX10_add 27 = .ok (.iastore, 1) := by decide +kernel
theorem dX10_add_28 : decode cX10_add 28 = .ok (.aload_n 0, 1) := by decide +kernel
theorem dX10_add_29 : decode cX10_add 29 = .ok (.dup, 1) := by decide +kernel
theorem dX10_add_30 : decode cX10_add 30 = .ok (.getfield 18, 3) := by decide +kernel
theorem dX10_add_33 : decode cX10_add 33 = .ok (.iconst 1, 1) := by decide +kernel
theorem dX10_add_34 : decode cX10_add 34 = .ok (.iadd, 1) := by decide +kernel
theorem dX10_add_35 : decode cX10_add 35 = .ok (.putfield 18, 3) := by decide +kernel
theorem dX10_add_38 : decode cX10_add 38 = .ok (.aload_n 0, 1) := by decide +kernel
theorem dX10_add_39 : decode cX10_add 39 = .ok (.getfield 18, 3) := by decide +kernel
theorem dX10_add_42 : decode cX10_add 42 = .ok (.ireturn, 1) := by decide +kernel
theorem dX11_init_0 : decode cX11_init 0 = .ok (.aload_n 0, 1) := by decide +kernel
theorem dX11_init_1 : decode cX11_init 1 = .ok (.invokespecial 3, 3) := by decide +kernel
theorem dX11_init_4 : decode cX11_init 4 = .ok (.aload_n 0, 1) := by decide +kernel
theorem dX11_init_5 : decode cX11_init 5 = .ok (.iconst (-1), 1) := by decide +kernel
theorem dX11_init_6 : decode cX11_init 6 = .ok (.putfield 9, 3) := by decide +kernel
theorem dX11_init_9 : decode cX11_init 9 = .ok (.aload_n 0, 1) := by decide +kernel
theorem dX11_init_10 : decode cX11_init 10 = .ok (.iconst 0, 1) := by decide +kernel
theorem dX11_init_11 : decode cX11_init 11 = .ok (.newarray .int, 2) := by decide +kernel
theorem dX11_init_13 : decode cX11_init 13 = .ok (.putfield 15, 3) := by decide +kernel
theorem dX11_init_16 : decode cX11_init 16 = .ok (.aload_n 0, 1) := by decide +kernel
theorem dX11_init_17 : decode cX11_init 17 = .ok (.iconst 0, 1) := by decide +kernel
theorem dX11_init_18 : decode cX11_init 18 = .ok (.newarray .int, 2) := by decide +kernel
theorem dX11_init_20 : decode cX11_init 20 = .ok (.putfield 19, 3) := by decide +kernel
theorem dX11_init_23 : decode cX11_init 23 = .ok (.aload_n 0, 1) := by decide +kernel
theorem dX11_init_24 : decode cX11_init 24 = .ok (.bipush 25, 2) := by decide +kernel
theorem dX11_init_26 : decode cX11_init 26 = .ok (.iconst 5, 1) := by decide +kernel
theorem dX11_init_27 : decode cX11_init 27 = .ok (.iload_n 1, 1) := by decide +kernel
theorem dX11_init_28 : decode cX11_init 28 = .ok (.imul, 1) := by decide +kernel
theorem dX11_init_29 : decode cX11_init 29 = .ok (.iconst 4, 1) := by decide +kernel
theorem dX11_init_30 : decode cX11_init 30 = .ok (.iadd, 1) := by decide +kernel
theorem dX11_init_31 : decode cX11_init 31 = .ok (.invokestatic 22, 3) := by decide +kernel
theorem dX11_init_34 : decode cX11_init 34 = .ok (.putfield 28, 3) := by decide +kernel
theorem dX11_init_37 : decode cX11_init 37 = .ok (.return_, 1) := by decide +kernel
theorem dX12_init_0 : decode cX12_init 0 = .ok (.aload_n 0, 1) := by decide +kernel
theorem dX12_init_1 : decode cX12_init 1 = .ok (.invokespecial 1, 3) := by decide +kernel
theorem dX12_init_4 : decode cX12_init 4 = .ok (.aload_n 0, 1) := by decide +kernel
theorem dX12_init_5 : decode cX12_init 5 = .ok (.new 7, 3) := by decide +kernel
theorem dX12_init_8 : decode cX12_init 8 = .ok (.dup, 1) := by decide +kernel
theorem dX12_init_9 : decode cX12_init 9 = .ok (.invokespecial 9, 3) := by decide +kernel
theorem dX12_init_12 : decode cX12_init 12 = .ok (.putfield 10, 3) := by decide +kernel
theorem dX12_init_15 : decode cX12_init 15 = .ok (.aload_n 0, 1) := by decide +kernel
theorem dX12_init_16 : decode cX12_init 16 = .ok (.new 16, 3) := by decide +kernel
theorem dX12_init_19 : decode cX12_init 19 = .ok (.dup, 1) := by decide +kernel
theorem dX12_init_20 : decode cX12_init 20 = .ok (.invokespecial 18, 3) := by decide +kernel
theorem dX12_init_23 : decode cX12_init 23 = .ok (.putfield 19, 3) := by decide +kernel
theorem dX12_init_26 : decode cX12_init 26 = .ok (.aload_n 0, 1) := by decide +kernel
theorem dX12_init_27 : decode cX12_init 27 = .ok (.new 23, 3) := by decide +kernel
theorem dX12_init_30 : decode cX12_init 30 = .ok (.dup, 1) := by decide +kernel
theorem dX12_init_31 : decode cX12_init 31 = .ok (.aload_n 0, 1) := by decide +kernel
theorem dX12_init_32 : decode cX12_init 32 = .ok (.getfield 19, 3) := by decide +kernel
theorem dX12_init_35 : decode cX12_init 35 = .ok (.invokespecial 25, 3) := by decide +kernel
theorem dX12_init_38 : decode cX12_init 38 = .ok (.putfield 28, 3) := by decide +kernel
theorem dX12_init_41 : decode cX12_init 41 = .ok (.aload_n 0, 1) := by decide +kernel
theorem dX12_init_42 : decode cX12_init 42 = .ok (.bipush 6, 2) := by decide +kernel
theorem dX12_init_44 : decode cX12_init 44 = .ok (.anewarray 32, 3) := by decide +kernel
theorem dX12_init_47 : decode cX12_init 47 = .ok (.putfield 34, 3) := by decide +kernel
theorem dX12_init_50 : decode cX12_init 50 = .ok (.iconst 0, 1) := by decide +kernel
theorem dX12_init_51 : decode cX12_init 51 = .ok (.istore_n 1, 1) := by decide +kernel
theorem dX12_init_52 : decode cX12_init 52 = .ok (.iload_n 1, 1) := by decide +kernel
theorem dX12_init_53 : decode cX12_init 53 = .ok (.bipush 6, 2) := by decide +kernel
theorem dX12_init_55 : decode cX12_init 55 = .ok (.if_icmp .ge 23, 3) := by decide +kernel
theorem dX12_init_58 : decode cX12_init 58 = .ok (.aload_n 0, 1) := by decide +kernel
theorem dX12_init_59 : decode cX12_init 59 = .ok (.getfield 34, 3) := by decide +kernel
theorem dX12_init_62 : decode cX12_init 62 = .ok (.iload_n 1, 1) := by decide +kernel
theorem dX12_init_63 : decode cX12_init 63 = .ok (.new 32, 3) := by decide +kernel
theorem dX12_init_66 : decode cX12_init 66 = .ok (.dup, 1) := by decide +kernel
theorem dX12_init_67 : decode cX12_init 67 = .ok (.iload_n 1, 1) := by decide +kernel
theorem dX12_init_68 : decode cX12_init 68 = .ok (.invokespecial 38, 3) := by decide +kernel
theorem dX12_init_71 : decode cX12_init 71 = .ok (.aastore, 1) := by decide +kernel
theorem dX12_init_72 : decode cX12_init 72 = .ok (.iinc 1 1, 3) := by decide +kernel
theorem dX12_init_75 : decode cX12_init 75 = .ok (.goto (-23), 3) := by decide +kernel
theorem dX12_init_78 : decode cX12_init 78 = .ok (.aload_n 0, 1) := by decide +kernel
theorem dX12_init_79 : decode cX12_init 79 = .ok (.bipush 60, 2) := by decide +kernel
theorem dX12_init_81 : decode cX12_init 81 = .ok (.anewarray 41, 3) := by decide +kernel
theorem dX12_init_84 : decode cX12_init 84 = .ok (.putfield 43, 3) := by decide +kernel
theorem dX12_init_87 : decode cX12_init 87 = .ok (.aload_n 0, 1) := by decide +kernel
theorem dX12_init_88 : decode cX12_init 88 = .ok (.bipush 60, 2) := by decide +kernel
theorem dX12_init_90 : decode cX12_init 90 = .ok (.newarray .int, 2) := by decide +kernel
theorem dX12_init_92 : decode cX12_init 92 = .ok (.putfield 47, 3) := by decide +kernel
theorem dX12_init_95 : decode cX12_init 95 = .ok (.aload_n 0, 1) := by decide +kernel
theorem dX12_init_96 : decode cX12_init 96 = .ok (.bipush 12, 2) := by decide +kernel
theorem dX12_init_98 : decode cX12_init 98 = .ok (.anewarray 51, 3) := by decide +kernel
theorem dX12_init_101 : decode cX12_init 101 = .ok (.putfield 53, 3) := by decide +kernel
theorem dX12_init_104 : decode cX12_init 104 = .ok (.aload_n 0, 1) := by decide +kernel
theorem dX12_init_105 : decode cX12_init 105 = .ok (.sipush 300, 3) := by decide +kernel
theorem dX12_init_108 : decode cX12_init 108 = .ok (.anewarray 57, 3) := by decide +kernel
theorem dX12_init_111 : decode cX12_init 111 = .ok (.putfield 59, 3) := by decide +kernel
theorem dX12_init_114 : decode cX12_init 114 = .ok (.aload_n 0, 1) := by decide +kernel
theorem dX12_init_115 : decode cX12_init 115 = .ok (.new 63, 3) := by decide +kernel
theorem dX12_init_118 : decode cX12_init 118 = .ok (.dup, 1) := by decide +kernel
theorem dX12_init_119 : decode cX12_init 119 = .ok (.invokespecial 65, 3) := by decide +kernel
theorem dX12_init_122 : decode cX12_init 122 = .ok (.putfield 66, 3) := by decide +kernel
theorem dX12_init_125 : decode cX12_init 125 = .ok (.aload_n 0, 1) := by decide +kernel
theorem dX12_init_126 : decode cX12_init 126 = .ok (.bipush 10, 2) := by decide +kernel
theorem dX12_init_128 : decode cX12_init 128 = .ok (.newarray .int, 2) := by decide +kernel
theorem dX12_init_130 : decode cX12_init 130 = .ok (.putfield 70, 3) := by decide +kernel
theorem dX12_init_133 : decode cX12_init 133 = .ok (.aload_n 0, 1) := by decide +kernel
theorem dX12_init_134 : decode cX12_init 134 = .ok (.bipush 10, 2) := by decide +kernel
theorem dX12_init_136 : decode cX12_init 136 = .ok (.newarray .int, 2) := by decide +kernel
theorem dX12_init_138 : decode cX12_init 138 = .ok (.putfield 73, 3) := by decide +kernel
theorem dX12_init_141 : decode cX12_init 141 = .ok (.aload_n 0, 1) := by decide +kernel
theorem dX12_init_142 : decode cX12_init 142 = .ok (.getfield 70, 3) := by decide +kernel
theorem dX12_init_145 : decode cX12_init 145 = .ok (.iconst (-1), 1) := by decide +kernel
theorem dX12_init_146 : decode cX12_init 146 = .ok (.invokestatic 76, 3) := by decide +kernel
theorem dX12_init_149 : decode cX12_init 149 = .ok (.aload_n 0, 1) := by decide +kernel
theorem dX12_init_150 : decode cX12_init 150 = .ok (.new 82, 3) := by decide +kernel
theorem dX12_init_153 : decode cX12_init 153 = .ok (.dup, 1) := by decide +kernel
theorem dX12_init_154 : decode cX12_init 154 = .ok (.invokespecial 84, 3) := by decide +kernel
theorem dX12_init_157 : decode cX12_init 157 = .ok (.putfield 85, 3) := by decide +kernel
theorem dX12_init_160 : decode cX12_init 160 = .ok (.aload_n 0, 1) := by decide +kernel
theorem dX12_init_161 : decode cX12_init 161 = .ok (.new 89, 3) := by decide +kernel
theorem dX12_init_164 : decode cX12_init 164 = .ok (.dup, 1) := by decide +kernel
theorem dX12_init_165 : decode cX12_init 165 = .ok (.invokespecial 91, 3) := by decide +kernel
theorem dX12_init_168 : decode cX12_init 168 = .ok (.putfield 92, 3) := by decide +kernel
theorem dX12_init_171 : decode cX12_init 171 = .ok (.aload_n 0, 1) := by decide +kernel
theorem dX12_init_172 : decode cX12_init 172 = .ok (.new 96, 3) := by decide +kernel
theorem dX12_init_175 : decode cX12_init 175 = .ok (.dup, 1) := by decide +kernel
theorem dX12_init_176 : decode cX12_init 176 = .ok (.invokespecial 98, 3) := by decide +kernel
theorem dX12_init_179 : decode cX12_init 179 = .ok (.putfield 99, 3) := by decide +kernel
theorem dX12_init_182 : decode cX12_init 182 = .ok (.return_, 1) := by decide +kernel
theorem dX12_feed_0 : decode cX12_feed 0 = .ok (.aload_n 0, 1) := by decide +kernel
theorem dX12_feed_1 : decode cX12_feed 1 = .ok (.getfield 10, 3) := by decide +kernel
theorem dX12_feed_4 : decode cX12_feed 4 = .ok (.getfield 103, 3) := by decide +kernel
theorem dX12_feed_7 : decode cX12_feed 7 = .ok (.bipush 20, 2) := by decide +kernel
theorem dX12_feed_9 : decode cX12_feed 9 = .ok (.iadd, 1) := by decide +kernel
theorem dX12_feed_10 : decode cX12_feed 10 = .ok (.sipush 600, 3) := by decide +kernel
theorem dX12_feed_13 : decode cX12_feed 13 = .ok (.if_icmp .le 5, 3) := by decide +kernel
theorem dX12_feed_18 : decode cX12_feed 18 = .ok (.aload_n 0, 1) := by decide +kernel
theorem dX12_feed_19 : decode cX12_feed 19 = .ok (.getfield 10, 3) := by decide +kernel
theorem dX12_feed_22 : decode cX12_feed 22 = .ok (.iload_n 1, 1) := by decide +kernel
theorem dX12_feed_23 : decode cX12_feed 23 = .ok (.invokevirtual 107, 3) := by decide +kernel
theorem dX12_feed_26 : decode cX12_feed 26 = .ok (.aload_n 0, 1) := by decide +kernel
theorem dX12_feed_27 : decode cX12_feed 27 = .ok (.getfield 10, 3) := by decide +kernel
theorem dX12_feed_30 : decode cX12_feed 30 = .ok (.iload_n 2, 1) := by decide +kernel
theorem dX12_feed_31 : decode cX12_feed 31 = .ok (.invokevirtual 107, 3) := by decide +kernel
theorem dX12_feed_34 : decode cX12_feed 34 = .ok (.aload_n 0, 1) := by decide +kernel
theorem dX12_feed_35 : decode cX12_feed 35 = .ok (.getfield 10, 3) := by decide +kernel
theorem dX12_feed_38 : decode cX12_feed 38 = .ok (.iload_n 3, 1) := by decide +kernel
theorem dX12_feed_39 : decode cX12_feed 39 = .ok (.invokevirtual 107, 3) := by decide +kernel
theorem dX12_feed_42 : decode cX12_feed 42 = .ok (.aload_n 0, 1) := by decide +kernel
theorem dX12_feed_43 : decode cX12_feed 43 = .ok (.getfield 10, 3) := by decide +kernel
theorem dX12_feed_46 : decode cX12_feed 46 = .ok (.iload 4, 2) := by decide +kernel
theorem dX12_feed_48 : decode cX12_feed 48 = .ok (.invokevirtual 107, 3) := by decide +kernel
theorem dX12_feed_51 : decode cX12_feed 51 = .ok (.aload_n 0, 1) := by decide +kernel
theorem dX12_feed_52 : decode cX12_feed 52 = .ok (.getfield 10, 3) := by decide +kernel
theorem dX12_feed_55 : decode cX12_feed 55 = .ok (.iload 5, 2) := by decide +kernel
theorem dX12_feed_57 : decode cX12_feed 57 = .ok (.invokevirtual 107, 3) := by decide +kernel
theorem dX12_feed_60 : decode cX12_feed 60 = .ok (.aload_n 0, 1) := by decide +kernel
theorem dX12_feed_61 : decode cX12_feed 61 = .ok (.getfield 10, 3) := by decide +kernel
theorem dX12_feed_64 : decode cX12_feed 64 = .ok (.getfield 103, 3) := by decide +kernel
theorem dX12_feed_67 : decode cX12_feed 67 = .ok (.ireturn, 1) := by decide +kernel
theorem dX12_end_0 : decode cX12_end 0 = .ok (.iload_n 1, 1) := by decide +kernel
theorem dX12_end_1 : decode cX12_end 1 = .ok (.ifCond .lt 14, 3) := by decide +kernel
theorem dX12_end_4 : decode cX12_end 4 = .ok (.iload_n 1, 1) := by decide +kernel
theorem dX12_end_5 : decode cX12_end 5 = .ok (.aload_n 0, 1) := by decide +kernel
theorem dX12_end_6 : decode cX12_end 6 = .ok (.getfield 10, 3) := by decide +kernel
theorem dX12_end_9 : decode cX12_end 9 = .ok (.getfield 103, 3) := by decide +kernel
theorem dX12_end_12 : decode cX12_end 12 = .ok (.if_icmp .le 5, 3) := by decide +kernel
theorem dX12_end_15 : decode cX12_end 15 = .ok (.iconst 0, 1) := by decide +kernel
theorem dX12_end_16 : decode cX12_end 16 = .ok (.ireturn, 1) := by decide +kernel
theorem dX12_end_17 : decode cX12_end 17 = .ok (.aload_n 0, 1) := by decide +kernel
theorem dX12_end_18 : decode cX12_end 18 = .ok (.getfield 10, 3) := by decide +kernel
theorem dX12_end_21 : decode cX12_end 21 = .ok (.iload_n 1, 1) := by decide +kernel
theorem dX12_end_22 : decode cX12_end 22 = .ok (.putfield 103, 3) := by decide +kernel
theorem dX12_end_25 : decode cX12_end 25 = .ok (.iconst 1, 1) := by decide +kernel
theorem dX12_end_26 : decode cX12_end 26 = .ok (.ireturn, 1) := by decide +kernel
theorem dX12_fault_0 : decode cX12_fault 0 = .ok (.aload_n 0, 1) := by decide +kernel
theorem dX12_fault_1 : decode cX12_fault 1 = .ok (.getfield 10, 3) := by decide +kernel
theorem dX12_fault_4 : decode cX12_fault 4 = .ok (.invokevirtual 110, 3) := by decide +kernel
theorem dX12_fault_7 : decode cX12_fault 7 = .ok (.ireturn, 1) := by decide +kernel
theorem dX12_sheet_0 : decode cX12_sheet 0 = .ok (.aload_n 0, 1) := by decide +kernel
theorem dX12_sheet_1 : decode cX12_sheet 1 = .ok (.getfield 19, 3) := by decide +kernel
theorem dX12_sheet_4 : decode cX12_sheet 4 = .ok (.invokevirtual 114, 3) := by decide +kernel
theorem dX12_sheet_7 : decode cX12_sheet 7 = .ok (.ifCond .eq 14, 3) := by decide +kernel
theorem dX12_sheet_10 : decode cX12_sheet 10 = .ok (.aload_n 0, 1) := by decide +kernel
theorem dX12_sheet_11 : decode cX12_sheet 11 = .ok (.getfield 10, 3) := by decide +kernel
theorem dX12_sheet_14 : decode cX12_sheet 14 = .ok (.invokevirtual 110, 3) := by decide +kernel
theorem dX12_sheet_17 : decode cX12_sheet 17 = .ok (.iconst (-1), 1) := by decide +kernel
theorem dX12_sheet_18 : decode cX12_sheet 18 = .ok (.if_icmp .eq 5, 3) := by decide +kernel
theorem dX12_sheet_23 : decode cX12_sheet 23 = .ok (.aload_n 0, 1) := by decide +kernel
theorem dX12_sheet_24 : decode cX12_sheet 24 = .ok (.getfield 19, 3) := by decide +kernel
theorem dX12_sheet_27 : decode cX12_sheet 27 = .ok (.aload_n 0, 1) := by decide +kernel
theorem dX12_sheet_28 : decode cX12_sheet 28 = .ok (.getfield 10, 3) := by decide +kernel
theorem dX12_sheet_31 : decode cX12_sheet 31 = .ok (.invokevirtual 118, 3) := by decide +kernel
theorem dX12_sheet_34 : decode cX12_sheet 34 = .ok (.invokevirtual 122, 3) := by decide +kernel
theorem dX12_sheet_37 : decode cX12_sheet 37 = .ok (.istore_n 1, 1) := by decide +kernel
theorem dX12_sheet_38 : decode cX12_sheet 38 = .ok (.aload_n 0, 1) := by decide +kernel
theorem dX12_sheet_39 : decode cX12_sheet 39 = .ok (.getfield 10, 3) := by decide +kernel
theorem dX12_sheet_42 : decode cX12_sheet 42 = .ok (.iconst 0, 1) := by decide +kernel
theorem dX12_sheet_43 : decode cX12_sheet 43 = .ok (.putfield 103, 3) := by decide +kernel
theorem dX12_sheet_46 : decode cX12_sheet 46 = .ok (.iload_n 1, 1) := by decide +kernel
theorem dX12_sheet_47 : decode cX12_sheet 47 = .ok (.ireturn, 1) := by decide +kernel
theorem dX12_force_0 : decode cX12_force 0 = .ok (.iload_n 2, 1) := by decide +kernel
theorem dX12_force_1 : decode cX12_force 1 = .ok (.iconst (-1), 1) := by decide +kernel
theorem dX12_force_2 : decode cX12_force 2 = .ok (.if_icmp .ne 7, 3) := by decide +kernel
theorem dX12_force_5 : decode cX12_force 5 = .ok (.iconst 1, 1) := by decide +kernel
theorem dX12_force_6 : decode cX12_force 6 = .ok (.goto 4, 3) := by decide +kernel
theorem dX12_force_9 : decode cX12_force 9 = .ok (.iconst 0, 1) := by decide +kernel
theorem dX12_force_10 : decode cX12_force 10 = .ok (.istore_n 3, 1) := by decide +kernel
theorem dX12_force_11 : decode cX12_force 11 = .ok (.iload_n 3, 1) := by decide +kernel
theorem dX12_force_12 : decode cX12_force 12 = .ok (.ifCond .ne 21, 3) := by decide +kernel
theorem dX12_force_15 : decode cX12_force 15 = .ok (.aload_n 0, 1) := by decide +kernel
theorem dX12_force_16 : decode cX12_force 16 = .ok (.iload_n 2, 1) := by decide +kernel
theorem dX12_force_17 : decode cX12_force 17 = .ok (.invokevirtual 126, 3) := by decide +kernel
theorem dX12_force_20 : decode cX12_force 20 = .ok (.ifCond .eq 11, 3) := by decide +kernel
theorem dX12_force_23 : decode cX12_force 23 = .ok (.aload_n 0, 1) := by decide +kernel
theorem dX12_force_24 : decode cX12_force 24 = .ok (.iload_n 2, 1) := by decide +kernel
theorem dX12_force_25 : decode cX12_force 25 = .ok (.invokevirtual 130, 3) := by decide +kernel
theorem dX12_force_28 : decode cX12_force 28 = .ok (.ifCond .eq 5, 3) := by decide +kernel
theorem dX12_force_31 : decode cX12_force 31 = .ok (.iconst (-1), 1) := by decide +kernel
theorem dX12_force_32 : decode cX12_force 32 = .ok (.ireturn, 1) := by decide +kernel
theorem dX12_force_33 : decode cX12_force 33 = .ok (.aload_n 0, 1) := by decide +kernel
theorem dX12_force_34 : decode cX12_force 34 = .ok (.getfield 19, 3) := by decide +kernel
theorem dX12_force_37 : decode cX12_force 37 = .ok (.iload_n 1, 1) := by decide +kernel
theorem dX12_force_38 : decode cX12_force 38 = .ok (.iload_n 2, 1) := by decide +kernel
theorem dX12_force_39 : decode cX12_force 39 = .ok (.aload_n 0, 1) := by decide +kernel
theorem dX12_force_40 : decode cX12_force 40 = .ok (.getfield 133, 3) := by decide +kernel
theorem dX12_force_43 : decode cX12_force 43 = .ok (.invokevirtual 136, 3) := by decide +kernel
theorem dX12_force_46 : decode cX12_force 46 = .ok (.istore 4, 2) := by decide +kernel
theorem dX12_force_48 : decode cX12_force 48 = .ok (.iload 4, 2) := by decide +kernel
theorem dX12_force_50 : decode cX12_force 50 = .ok (.iconst (-1), 1) := by decide +kernel
theorem dX12_force_51 : decode cX12_force 51 = .ok (.if_icmp .eq 11, 3) := by decide +kernel
theorem dX12_force_62 : decode cX12_force 62 = .ok (.iload 4, 2) := by decide +kernel
theorem dX12_force_64 : decode cX12_force 64 = .ok (.ireturn, 1) := by decide +kernel
theorem dX12_rule_0 : decode cX12_rule 0 = .ok (.iload_n 1, 1) := by decide +kernel
theorem dX12_rule_1 : decode cX12_rule 1 = .ok (.invokestatic 143, 3) := by decide +kernel
theorem dX12_rule_4 : decode cX12_rule 4 = .ok (.istore 4, 2) := by decide +kernel
theorem dX12_rule_6 : decode cX12_rule 6 = .ok (.iload 4, 2) := by decide +kernel
theorem dX12_rule_8 : decode cX12_rule 8 = .ok (.iconst (-1), 1) := by decide +kernel
theorem dX12_rule_9 : decode cX12_rule 9 = .ok (.if_icmp .eq 23, 3) := by decide +kernel
theorem dX12_rule_12 : decode cX12_rule 12 = .ok (.aload_n 0, 1) := by decide +kernel
theorem dX12_rule_13 : decode cX12_rule 13 = .ok (.iload_n 2, 1) := by decide +kernel
theorem dX12_rule_14 : decode cX12_rule 14 = .ok (.invokevirtual 126, 3) := by decide +kernel
theorem dX12_rule_17 : decode cX12_rule 17 = .ok (.ifCond .eq 15, 3) := by decide +kernel
theorem dX12_rule_20 : decode cX12_rule 20 = .ok (.iload_n 3, 1) := by decide +kernel
theorem dX12_rule_21 : decode cX12_rule 21 = .ok (.ifCond .lt 11, 3) := by decide +kernel
theorem dX12_rule_24 : decode cX12_rule 24 = .ok (.iload_n 3, 1) := by decide +kernel
theorem dX12_rule_25 : decode cX12_rule 25 = .ok (.aload_n 0, 1) := by decide +kernel
theorem dX12_rule_26 : decode cX12_rule 26 = .ok (.getfield 133, 3) := by decide +kernel
theorem dX12_rule_29 : decode cX12_rule 29 = .ok (.if_icmp .le 5, 3) := by decide +kernel
theorem dX12_rule_32 : decode cX12_rule 32 = .ok (.iconst (-1), 1) := by decide +kernel
theorem dX12_rule_33 : decode cX12_rule 33 = .ok (.ireturn, 1) := by decide +kernel
theorem dX12_rule_34 : decode cX12_rule 34 = .ok (.aload_n 0, 1) := by decide +kernel
theorem dX12_rule_35 : decode cX12_rule 35 = .ok (.getfield 19, 3) := by decide +kernel
theorem dX12_rule_38 : decode cX12_rule 38 = .ok (.iload 4, 2) := by decide +kernel
theorem dX12_rule_40 : decode cX12_rule 40 = .ok (.iload_n 2, 1) := by decide +kernel
theorem dX12_rule_41 : decode cX12_rule 41 = .ok (.iload_n 3, 1) := by decide +kernel
theorem dX12_rule_42 : decode cX12_rule 42 = .ok (.invokevirtual 149, 3) := by decide +kernel
theorem dX12_rule_45 : decode cX12_rule 45 = .ok (.ireturn, 1) := by decide +kernel
theorem dX12_go_0 : decode cX12_go 0 = .ok (.iload_n 1, 1) := by decide +kernel
theorem dX12_go_1 : decode cX12_go 1 = .ok (.ifCond .lt 10, 3) := by decide +kernel
theorem dX12_go_4 : decode cX12_go 4 = .ok (.iload_n 1, 1) := by decide +kernel
theorem dX12_go_5 : decode cX12_go 5 = .ok (.sipush 300, 3) := by decide +kernel
theorem dX12_go_8 : decode cX12_go 8 = .ok (.if_icmp .le 5, 3) := by decide +kernel
theorem dX12_go_11 : decode cX12_go 11 = .ok (.iconst (-1), 1) := by decide +kernel
theorem dX12_go_12 : decode cX12_go 12 = .ok (.ireturn, 1) := by decide +kernel
theorem dX12_go_13 : decode cX12_go 13 = .ok (.aload_n 0, 1) := by decide +kernel
theorem dX12_go_14 : decode cX12_go 14 = .ok (.sipush 2000, 3) := by decide +kernel
theorem dX12_go_17 : decode cX12_go 17 = .ok (.aload_n 0, 1) := by decide +kernel
theorem dX12_go_18 : decode cX12_go 18 = .ok (.getfield 133, 3) := by decide +kernel
theorem dX12_go_21 : decode cX12_go 21 = .ok (.iload_n 1, 1) := by decide +kernel
theorem dX12_go_22 : decode cX12_go 22 = .ok (.iadd, 1) := by decide +kernel
theorem dX12_go_23 : decode cX12_go 23 = .ok (.invokestatic 152, 3) := by decide +kernel
theorem dX12_go_26 : decode cX12_go 26 = .ok (.putfield 133, 3) := by decide +kernel
theorem dX12_go_29 : decode cX12_go 29 = .ok (.aload_n 0, 1) := by decide +kernel
theorem dX12_go_30 : decode cX12_go 30 = .ok (.getfield 133, 3) := by decide +kernel
theorem dX12_go_33 : decode cX12_go 33 = .ok (.ireturn, 1) := by decide +kernel
theorem dX12_bound_0 : decode cX12_bound 0 = .ok (.iload_n 1, 1) := by decide +kernel
theorem dX12_bound_1 : decode cX12_bound 1 = .ok (.ifCond .lt 25, 3) := by decide +kernel
theorem dX12_bound_4 : decode cX12_bound 4 = .ok (.iload_n 1, 1) := by decide +kernel
theorem dX12_bound_5 : decode cX12_bound 5 = .ok (.iconst 5, 1) := by decide +kernel
theorem dX12_bound_6 : decode cX12_bound 6 = .ok (.if_icmp .ge 20, 3) := by decide +kernel
theorem dX12_bound_9 : decode cX12_bound 9 = .ok (.iload_n 2, 1) := by decide +kernel
theorem dX12_bound_10 : decode cX12_bound 10 = .ok (.ifCond .lt 16, 3) := by decide +kernel
theorem dX12_bound_13 : decode cX12_bound 13 = .ok (.iload_n 2, 1) := by decide +kernel
theorem dX12_bound_14 : decode cX12_bound 14 = .ok (.bipush 26, 2) := by decide +kernel
theorem dX12_bound_16 : decode cX12_bound 16 = .ok (.if_icmp .ge 10, 3) := by decide +kernel
theorem dX12_bound_19 : decode cX12_bound 19 = .ok (.aload_n 0, 1) := by decide +kernel
theorem dX12_bound_20 : decode cX12_bound 20 = .ok (.getfield 158, 3) := by decide +kernel
theorem dX12_bound_23 : decode cX12_bound 23 = .ok (.ifCond .eq 5, 3) := by decide +kernel
theorem dX12_bound_26 : decode cX12_bound 26 = .ok (.iconst 0, 1) := by decide +kernel
theorem dX12_bound_27 : decode cX12_bound 27 = .ok (.ireturn, 1) := by decide +kernel
theorem dX12_bound_28 : decode cX12_bound 28 = .ok (.aload_n 0, 1) := by decide +kernel
theorem dX12_bound_29 : decode cX12_bound 29 = .ok (.getfield 34, 3) := by decide +kernel
theorem dX12_bound_32 : decode cX12_bound 32 = .ok (.iload_n 1, 1) := by decide +kernel
theorem dX12_bound_33 : decode cX12_bound 33 = .ok (.aaload, 1) := by decide +kernel
theorem dX12_bound_34 : decode cX12_bound 34 = .ok (.astore_n 3, 1) := by decide +kernel
theorem dX12_bound_35 : decode cX12_bound 35 = .ok (.aload_n 3, 1) := by decide +kernel
theorem dX12_bound_36 : decode cX12_bound 36 = .ok (.ifnull 25, 3) := by decide +kernel
theorem dX12_bound_39 : decode cX12_bound 39 = .ok (.iload_n 2, 1) := by decide +kernel
theorem dX12_bound_40 : decode cX12_bound 40 = .ok (.aload_n 0, 1) := by decide +kernel
theorem dX12_bound_41 : decode cX12_bound 41 = .ok (.iload_n 1, 1) := by decide +kernel
theorem dX12_bound_42 : decode cX12_bound 42 = .ok (.iconst 1, 1) := by decide +kernel
theorem dX12_bound_43 : decode cX12_bound 43 = .ok (.isub, 1) := by decide +kernel
theorem dX12_bound_44 : decode cX12_bound 44 = .ok (.invokevirtual 161, 3) := by decide +kernel
theorem dX12_bound_47 : decode cX12_bound 47 = .ok (.if_icmp .lt 14, 3) := by decide +kernel
theorem dX12_bound_50 : decode cX12_bound 50 = .ok (.iload_n 2, 1) := by decide +kernel
theorem dX12_bound_51 : decode cX12_bound 51 = .ok (.aload_n 0, 1) := by decide +kernel
theorem dX12_bound_52 : decode cX12_bound 52 = .ok (.iload_n 1, 1) := by decide +kernel
theorem dX12_bound_53 : decode cX12_bound 53 = .ok (.iconst 1, 1) := by decide +kernel
theorem dX12_bound_54 : decode cX12_bound 54 = .ok (.iadd, 1) := by decide +kernel
theorem dX12_bound_55 : decode cX12_bound 55 = .ok (.invokevirtual 161, 3) := by decide +kernel
theorem dX12_bound_58 : decode cX12_bound 58 = .ok (.if_icmp .le 5, 3) := by decide +kernel
theorem dX12_bound_61 : decode cX12_bound 61 = .ok (.iconst 0, 1) := by decide +kernel
theorem dX12_bound_62 : decode cX12_bound 62 = .ok (.ireturn, 1) := by decide +kernel
theorem dX12_bound_63 : decode cX12_bound 63 = .ok (.aload_n 3, 1) := by decide +kernel
theorem dX12_bound_64 : decode cX12_bound 64 = .ok (.iload_n 2, 1) := by decide +kernel
theorem dX12_bound_65 : decode cX12_bound 65 = .ok (.putfield 164, 3) := by decide +kernel
theorem dX12_bound_68 : decode cX12_bound 68 = .ok (.aload_n 0, 1) := by decide +kernel
theorem dX12_bound_69 : decode cX12_bound 69 = .ok (.invokevirtual 140, 3) := by decide +kernel
theorem dX12_bound_72 : decode cX12_bound 72 = .ok (.iconst 1, 1) := by decide +kernel
theorem dX12_bound_73 : decode cX12_bound 73 = .ok (.ireturn, 1) := by decide +kernel
theorem dX12_lastLetter_0 : decode cX12_lastLetter 0 = .ok (.aload_n 0, 1) := by decide +kernel
theorem dX12_lastLetter_1 : decode cX12_lastLetter 1 = .ok (.iload_n 1, 1) := by decide +kernel
theorem dX12_lastLetter_2 : decode cX12_lastLetter 2 = .ok (.invokevirtual 166, 3) := by decide +kernel
theorem dX12_lastLetter_5 : decode cX12_lastLetter 5 = .ok (.astore_n 2, 1) := by decide +kernel
theorem dX12_lastLetter_6 : decode cX12_lastLetter 6 = .ok (.aload_n 2, 1) := by decide +kernel
theorem dX12_lastLetter_7 : decode cX12_lastLetter 7 = .ok (.ifnonnull 7, 3) := by decide +kernel
theorem dX12_lastLetter_10 : decode cX12_lastLetter 10 = .ok (.iconst 0, 1) := by decide +kernel
theorem dX12_lastLetter_11 : decode cX12_lastLetter 11 = .ok (.goto 7, 3) := by decide +kernel
theorem dX12_lastLetter_14 : decode cX12_lastLetter 14 = .ok (.aload_n 2, 1) := by decide +kernel
theorem dX12_lastLetter_15 : decode cX12_lastLetter 15 = .ok (.getfield 164, 3) := by decide +kernel
theorem dX12_lastLetter_18 : decode cX12_lastLetter 18 = .ok (.ireturn, 1) := by decide +kernel
theorem dX12_isVolume_0 : decode cX12_isVolume 0 = .ok (.iload_n 1, 1) := by decide +kernel
theorem dX12_isVolume_1 : decode cX12_isVolume 1 = .ok (.ifCond .lt 13, 3) := by decide +kernel
theorem dX12_isVolume_4 : decode cX12_isVolume 4 = .ok (.iload_n 1, 1) := by decide +kernel
theorem dX12_isVolume_5 : decode cX12_isVolume 5 = .ok (.bipush 6, 2) := by decide +kernel
theorem dX12_isVolume_7 : decode cX12_isVolume 7 = .ok (.if_icmp .ge 7, 3) := by decide +kernel
theorem dX12_isVolume_10 : decode cX12_isVolume 10 = .ok (.iconst 1, 1) := by decide +kernel
theorem dX12_isVolume_11 : decode cX12_isVolume 11 = .ok (.goto 4, 3) := by decide +kernel
theorem dX12_isVolume_14 : decode cX12_isVolume 14 = .ok (.iconst 0, 1) := by decide +kernel
theorem dX12_isVolume_15 : decode cX12_isVolume 15 = .ok (.ireturn, 1) := by decide +kernel
theorem dX12_volumeAt_0 : decode cX12_volumeAt 0 = .ok (.aload_n 0, 1) := by decide +kernel
theorem dX12_volumeAt_1 : decode cX12_volumeAt 1 = .ok (.iload_n 1, 1) := by decide +kernel
theorem dX12_volumeAt_2 : decode cX12_volumeAt 2 = .ok (.invokevirtual 126, 3) := by decide +kernel
theorem dX12_volumeAt_5 : decode cX12_volumeAt 5 = .ok (.ifCond .eq 12, 3) := by decide +kernel
theorem dX12_volumeAt_8 : decode cX12_volumeAt 8 = .ok (.aload_n 0, 1) := by decide +kernel
theorem dX12_volumeAt_9 : decode cX12_volumeAt 9 = .ok (.getfield 34, 3) := by decide +kernel
theorem dX12_volumeAt_12 : decode cX12_volumeAt 12 = .ok (.iload_n 1, 1) := by decide +kernel
theorem dX12_volumeAt_13 : decode cX12_volumeAt 13 = .ok (.aaload, 1) := by decide +kernel
theorem dX12_volumeAt_14 : decode cX12_volumeAt 14 = .ok (.goto 4, 3) := by decide +kernel
theorem dX12_volumeAt_17 : decode cX12_volumeAt 17 = .ok (.aconst_null, 1) := by decide +kernel
theorem dX12_volumeAt_18 : decode cX12_volumeAt 18 = .ok (.areturn, 1) := by decide +kernel
theorem dX12_isSet_0 : decode cX12_isSet 0 = .ok (.iload_n 1, 1) := by decide +kernel
theorem dX12_isSet_1 : decode cX12_isSet 1 = .ok (.ifCond .lt 18, 3) := by decide +kernel
theorem dX12_isSet_4 : decode cX12_isSet 4 = .ok (.aload_n 0, 1) := by decide +kernel
theorem dX12_isSet_5 : decode cX12_isSet 5 = .ok (.getfield 158, 3) := by decide +kernel
theorem dX12_isSet_8 : decode cX12_isSet 8 = .ok (.iload_n 1, 1) := by decide +kernel
theorem dX12_isSet_9 : decode cX12_isSet 9 = .ok (.ishr, 1) := by decide +kernel
theorem dX12_isSet_10 : decode cX12_isSet 10 = .ok (.iconst 1, 1) := by decide +kernel
theorem dX12_isSet_11 : decode cX12_isSet 11 = .ok (.iand, 1) := by decide +kernel
theorem dX12_isSet_12 : decode cX12_isSet 12 = .ok (.ifCond .eq 7, 3) := by decide +kernel
theorem dX12_isSet_15 : decode cX12_isSet 15 = .ok (.iconst 1, 1) := by decide +kernel
theorem dX12_isSet_16 : decode cX12_isSet 16 = .ok (.goto 4, 3) := by decide +kernel
theorem dX12_isSet_19 : decode cX12_isSet 19 = .ok (.iconst 0, 1) := by decide +kernel
theorem dX12_isSet_20 : decode cX12_isSet 20 = .ok (.ireturn, 1) := by decide +kernel
theorem dX12_setVolumeAt_0 : decode cX12_setVolumeAt 0 = .ok (.aload_n 0, 1) := by decide +kernel
theorem dX12_setVolumeAt_1 : decode cX12_setVolumeAt 1 = .ok (.iload_n 1, 1) := by decide +kernel
theorem dX12_setVolumeAt_2 : decode cX12_setVolumeAt 2 = .ok (.invokevirtual 166, 3) := by decide +kernel
theorem dX12_setVolumeAt_5 : decode cX12_setVolumeAt 5 = .ok (.astore_n 2, 1) := by decide +kernel
theorem dX12_setVolumeAt_6 : decode cX12_setVolumeAt 6 = .ok (.aload_n 2, 1) := by decide +kernel
theorem dX12_setVolumeAt_7 : decode cX12_setVolumeAt 7 = .ok (.ifnull 15, 3) := by decide +kernel
theorem dX12_setVolumeAt_10 : decode cX12_setVolumeAt 10 = .ok (.aload_n 2, 1) := by decide +kernel
theorem dX12_setVolumeAt_11 : decode cX12_setVolumeAt 11 = .ok (.getfield 170, 3) := by decide +kernel
theorem dX12_setVolumeAt_14 : decode cX12_setVolumeAt 14 = .ok (.iconst (-1), 1) := by decide +kernel
theorem dX12_setVolumeAt_15 : decode cX12_setVolumeAt 15 = .ok (.if_icmp .eq 7, 3) := by decide +kernel
theorem dX12_setVolumeAt_22 : decode cX12_setVolumeAt 22 = .ok (.aconst_null, 1) := by decide +kernel
theorem dX12_setVolumeAt_23 : decode cX12_setVolumeAt 23 = .ok (.areturn, 1) := by decide +kernel
theorem dX12_article_0 : decode cX12_article 0 = .ok (.iload 4, 2) := by decide +kernel
theorem dX12_article_2 : decode cX12_article 2 = .ok (.sipush 10000, 3) := by decide +kernel
theorem dX12_article_5 : decode cX12_article 5 = .ok (.idiv, 1) := by decide +kernel
theorem dX12_article_6 : decode cX12_article 6 = .ok (.istore 5, 2) := by decide +kernel
theorem dX12_article_8 : decode cX12_article 8 = .ok (.iload 4, 2) := by decide +kernel
theorem dX12_article_10 : decode cX12_article 10 = .ok (.sipush 1000, 3) := by decide +kernel
theorem dX12_article_13 : decode cX12_article 13 = .ok (.idiv, 1) := by decide +kernel
theorem dX12_article_14 : decode cX12_article 14 = .ok (.bipush 10, 2) := by decide +kernel
theorem dX12_article_16 : decode cX12_article 16 = .ok (.irem, 1) := by decide +kernel
theorem dX12_article_17 : decode cX12_article 17 = .ok (.istore 6, 2) := by decide +kernel
theorem dX12_article_19 : decode cX12_article 19 = .ok (.iload 4, 2) := by decide +kernel
theorem dX12_article_21 : decode cX12_article 21 = .ok (.sipush 1000, 3) := by decide +kernel
theorem dX12_article_24 : decode cX12_article 24 = .ok (.irem, 1) := by decide +kernel
theorem dX12_article_25 : decode cX12_article 25 = .ok (.istore 7, 2) := by decide +kernel
theorem dX12_article_27 : decode cX12_article 27 = .ok (.iload 4, 2) := by decide +kernel
theorem dX12_article_29 : decode cX12_article 29 = .ok (.ifCond .lt 30, 3) := by decide +kernel
theorem dX12_article_32 : decode cX12_article 32 = .ok (.iload 5, 2) := by decide +kernel
theorem dX12_article_34 : decode cX12_article 34 = .ok (.iconst 2, 1) := by decide +kernel
theorem dX12_article_35 : decode cX12_article 35 = .ok (.if_icmp .gt 24, 3) := by decide +kernel
theorem dX12_article_38 : decode cX12_article 38 = .ok (.iload 6, 2) := by decide +kernel
theorem dX12_article_40 : decode cX12_article 40 = .ok (.bipush 7, 2) := by decide +kernel
theorem dX12_article_42 : decode cX12_article 42 = .ok (.if_icmp .gt 17, 3) := by decide +kernel
theorem dX12_article_45 : decode cX12_article 45 = .ok (.iload 7, 2) := by decide +kernel
theorem dX12_article_47 : decode cX12_article 47 = .ok (.iconst 1, 1) := by decide +kernel
theorem dX12_article_48 : decode cX12_article 48 = .ok (.if_icmp .lt 11, 3) := by decide +kernel
theorem dX12_article_51 : decode cX12_article 51 = .ok (.iload 7, 2) := by decide +kernel
theorem dX12_article_53 : decode cX12_article 53 = .ok (.sipush 200, 3) := by decide +kernel
theorem dX12_article_56 : decode cX12_article 56 = .ok (.if_icmp .le 5, 3) := by decide +kernel
theorem dX12_article_59 : decode cX12_article 59 = .ok (.iconst (-1), 1) := by decide +kernel
theorem dX12_article_60 : decode cX12_article 60 = .ok (.ireturn, 1) := by decide +kernel
theorem dX12_article_61 : decode cX12_article 61 = .ok (.aload_n 0, 1) := by decide +kernel
theorem dX12_article_62 : decode cX12_article 62 = .ok (.iconst 0, 1) := by decide +kernel
theorem dX12_article_63 : decode cX12_article 63 = .ok (.iload_n 1, 1) := by decide +kernel
theorem dX12_article_64 : decode cX12_article 64 = .ok (.iload_n 2, 1) := by decide +kernel
theorem dX12_article_65 : decode cX12_article 65 = .ok (.iload_n 3, 1) := by decide +kernel
theorem dX12_article_66 : decode cX12_article 66 = .ok (.invokevirtual 173, 3) := by decide +kernel
theorem dX12_article_69 : decode cX12_article 69 = .ok (.astore 8, 2) := by decide +kernel
theorem dX12_article_71 : decode cX12_article 71 = .ok (.aload 8, 2) := by decide +kernel
theorem dX12_article_73 : decode cX12_article 73 = .ok (.ifnonnull 5, 3) := by decide +kernel
theorem dX12_article_76 : decode cX12_article 76 = .ok (.iconst (-1), 1) := by decide +kernel
theorem dX12_article_77 : decode cX12_article 77 = .ok (.ireturn, 1) := by decide +kernel
theorem dX12_article_78 : decode cX12_article 78 = .ok (.aload 8, 2) := by decide +kernel
theorem dX12_article_80 : decode cX12_article 80 = .ok (.iload 5, 2) := by decide +kernel
theorem dX12_article_82 : decode cX12_article 82 = .ok (.putfield 177, 3) := by decide +kernel
theorem dX12_article_85 : decode cX12_article 85 = .ok (.aload 8, 2) := by decide +kernel
theorem dX12_article_87 : decode cX12_article 87 = .ok (.iload 6, 2) := by decide +kernel
theorem dX12_article_89 : decode cX12_article 89 = .ok (.putfield 180, 3) := by decide +kernel
theorem dX12_article_92 : decode cX12_article 92 = .ok (.aload 8, 2) := by decide +kernel
theorem dX12_article_94 : decode cX12_article 94 = .ok (.iload 7, 2) := by decide +kernel
theorem dX12_article_96 : decode cX12_article 96 = .ok (.putfield 183, 3) := by decide +kernel
theorem dX12_article_99 : decode cX12_article 99 = .ok (.aload 8, 2) := by decide +kernel
theorem dX12_article_101 : decode cX12_article 101 = .ok (.getfield 186, 3) := by decide +kernel
theorem dX12_article_104 : decode cX12_article 104 = .ok (.ireturn, 1) := by decide +kernel
theorem dX12_pointer_0 : decode cX12_pointer 0 = .ok (.aload_n 0, 1) := by decide +kernel
theorem dX12_pointer_1 : decode cX12_pointer 1 = .ok (.iload 4, 2) := by decide +kernel
theorem dX12_pointer_3 : decode cX12_pointer 3 = .ok (.invokevirtual 189, 3) := by decide +kernel
theorem dX12_pointer_6 : decode cX12_pointer 6 = .ok (.ifnonnull 5, 3) := by decide +kernel
theorem dX12_pointer_9 : decode cX12_pointer 9 = .ok (.iconst (-1), 1) := by decide +kernel
theorem dX12_pointer_10 : decode cX12_pointer 10 = .ok (.ireturn, 1) := by decide +kernel
theorem dX12_plate_0 : decode cX12_plate 0 = .ok (.aload_n 0, 1) := by decide +kernel
theorem dX12_plate_1 : decode cX12_plate 1 = .ok (.iload 4, 2) := by decide +kernel
theorem dX12_plate_3 : decode cX12_plate 3 = .ok (.iload 5, 2) := by decide +kernel
theorem dX12_plate_5 : decode cX12_plate 5 = .ok (.invokevirtual 196, 3) := by decide +kernel
theorem dX12_plate_8 : decode cX12_plate 8 = .ok (.ifCond .ne 5, 3) := by decide +kernel
theorem dX12_plate_11 : decode cX12_plate 11 = .ok (.iconst (-1), 1) := by decide +kernel
theorem dX12_plate_12 : decode cX12_plate 12 = .ok (.ireturn, 1) := by decide +kernel
theorem dX12_areEntries_0 : decode cX12_areEntries 0 = .ok (.iload_n 1, 1) := by decide +kernel
theorem dX12_areEntries_1 : decode cX12_areEntries 1 = .ok (.ifCond .lt 13, 3) := by decide +kernel
theorem dX12_areEntries_4 : decode cX12_areEntries 4 = .ok (.iload_n 2, 1) := by decide +kernel
theorem dX12_areEntries_5 : decode cX12_areEntries 5 = .ok (.iconst 1, 1) := by decide +kernel
theorem dX12_areEntries_6 : decode cX12_areEntries 6 = .ok (.if_icmp .lt 8, 3) := by decide +kernel
theorem dX12_areEntries_9 : decode cX12_areEntries 9 = .ok (.iload_n 2, 1) := by decide +kernel
theorem dX12_areEntries_10 : decode cX12_areEntries 10 = .ok (.iconst 4, 1) := by decide +kernel
theorem dX12_areEntries_11 : decode cX12_areEntries 11 = .ok (.if_icmp .le 5, 3) := by decide +kernel
theorem dX12_areEntries_14 : decode cX12_areEntries 14 = .ok (.iconst 0, 1) := by decide +kernel
theorem dX12_areEntries_15 : decode cX12_areEntries 15 = .ok (.ireturn, 1) := by decide +kernel
theorem dX12_areEntries_16 : decode cX12_areEntries 16 = .ok (.lconst 0, 1) := by decide +kernel
theorem dX12_areEntries_17 : decode cX12_areEntries 17 = .ok (.lstore_n 3, 1) := by decide +kernel
theorem dX12_areEntries_18 : decode cX12_areEntries 18 = .ok (.iload_n 1, 1) := by decide +kernel
theorem dX12_areEntries_19 : decode cX12_areEntries 19 = .ok (.istore 5, 2) := by decide +kernel
theorem dX12_areEntries_21 : decode cX12_areEntries 21 = .ok (.iconst 0, 1) := by decide +kernel
theorem dX12_areEntries_22 : decode cX12_areEntries 22 = .ok (.istore 6, 2) := by decide +kernel
theorem dX12_areEntries_24 : decode cX12_areEntries 24 = .ok (.iload 6, 2) := by decide +kernel
theorem dX12_areEntries_26 : decode cX12_areEntries 26 = .ok (.iload_n 2, 1) := by decide +kernel
theorem dX12_areEntries_27 : decode cX12_areEntries 27 = .ok (.if_icmp .ge 52, 3) := by decide +kernel
theorem dX12_areEntries_30 : decode cX12_areEntries 30 = .ok (.iload 5, 2) := by decide +kernel
theorem dX12_areEntries_32 : decode cX12_areEntries 32 = .ok (.bipush 100, 2) := by decide +kernel
theorem dX12_areEntries_34 : decode cX12_areEntries 34 = .ok (.irem, 1) := by decide +kernel
theorem dX12_areEntries_35 : decode cX12_areEntries 35 = .ok (.istore 7, 2) := by decide +kernel
theorem dX12_areEntries_37 : decode cX12_areEntries 37 = .ok (.aload_n 0, 1) := by decide +kernel
theorem dX12_areEntries_38 : decode cX12_areEntries 38 = .ok (.iload 7, 2) := by decide +kernel
theorem dX12_areEntries_40 : decode cX12_areEntries 40 = .ok (.invokevirtual 189, 3) := by decide +kernel
theorem dX12_areEntries_43 : decode cX12_areEntries 43 = .ok (.ifnull 14, 3) := by decide +kernel
theorem dX12_areEntries_57 : decode cX12_areEntries 57 = .ok (.iconst 0, 1) := by decide +kernel
theorem dX12_areEntries_58 : decode cX12_areEntries 58 = .ok (.ireturn, 1) := by decide +kernel
theorem dX12_newEntry_0 : decode cX12_newEntry 0 = .ok (.iload_n 2, 1) := by decide +kernel
theorem dX12_newEntry_1 : decode cX12_newEntry 1 = .ok (.iload_n 3, 1) := by decide +kernel
theorem dX12_newEntry_2 : decode cX12_newEntry 2 = .ok (.iload 4, 2) := by decide +kernel
theorem dX12_newEntry_4 : decode cX12_newEntry 4 = .ok (.invokestatic 200, 3) := by decide +kernel
theorem dX12_newEntry_7 : decode cX12_newEntry 7 = .ok (.istore 5, 2) := by decide +kernel
theorem dX12_newEntry_9 : decode cX12_newEntry 9 = .ok (.iload 5, 2) := by decide +kernel
theorem dX12_newEntry_11 : decode cX12_newEntry 11 = .ok (.iconst (-1), 1) := by decide +kernel
theorem dX12_newEntry_12 : decode cX12_newEntry 12 = .ok (.if_icmp .eq 12, 3) := by decide +kernel
theorem dX12_newEntry_15 : decode cX12_newEntry 15 = .ok (.aload_n 0, 1) := by decide +kernel
theorem dX12_newEntry_16 : decode cX12_newEntry 16 = .ok (.getfield 203, 3) := by decide +kernel
theorem dX12_newEntry_19 : decode cX12_newEntry 19 = .ok (.bipush 60, 2) := by decide +kernel
theorem dX12_newEntry_21 : decode cX12_newEntry 21 = .ok (.if_icmp .lt 5, 3) := by decide +kernel
theorem dX12_newEntry_24 : decode cX12_newEntry 24 = .ok (.aconst_null, 1) := by decide +kernel
theorem dX12_newEntry_25 : decode cX12_newEntry 25 = .ok (.areturn, 1) := by decide +kernel
theorem dX12_newEntry_26 : decode cX12_newEntry 26 = .ok (.new 41, 3) := by decide +kernel
theorem dX12_newEntry_29 : decode cX12_newEntry 29 = .ok (.dup, 1) := by decide +kernel
theorem dX12_newEntry_30 : decode cX12_newEntry 30 = .ok (.aload_n 0, 1) := by decide +kernel
theorem dX12_newEntry_31 : decode cX12_newEntry 31 = .ok (.getfield 203, 3) := by decide +kernel
theorem dX12_newEntry_34 : decode cX12_newEntry 34 = .ok (.iload_n 1, 1) := by decide +kernel
theorem dX12_newEntry_35 : decode cX12_newEntry 35 = .ok (.iload 5, 2) := by decide +kernel
theorem dX12_newEntry_37 : decode cX12_newEntry 37 = .ok (.invokespecial 206, 3) := by decide +kernel
theorem dX12_newEntry_40 : decode cX12_newEntry 40 = .ok (.astore 6, 2) := by decide +kernel
theorem dX12_newEntry_42 : decode cX12_newEntry 42 = .ok (.aload 6, 2) := by decide +kernel
theorem dX12_newEntry_44 : decode cX12_newEntry 44 = .ok (.iload_n 2, 1) := by decide +kernel
theorem dX12_newEntry_45 : decode cX12_newEntry 45 = .ok (.iload_n 3, 1) := by decide +kernel
theorem dX12_newEntry_46 : decode cX12_newEntry 46 = .ok (.iload 4, 2) := by decide +kernel
theorem dX12_newEntry_48 : decode cX12_newEntry 48 = .ok (.invokevirtual 209, 3) := by decide +kernel
theorem dX12_newEntry_51 : decode cX12_newEntry 51 = .ok (.aload_n 0, 1) := by decide +kernel
theorem dX12_newEntry_52 : decode cX12_newEntry 52 = .ok (.getfield 43, 3) := by decide +kernel
theorem dX12_newEntry_55 : decode cX12_newEntry 55 = .ok (.aload_n 0, 1) := by decide +kernel
theorem dX12_newEntry_56 : decode cX12_newEntry 56 = .ok (.getfield 203, 3) := by decide +kernel
theorem dX12_newEntry_59 : decode cX12_newEntry 59 = .ok (.aload 6, 2) := by decide +kernel
theorem dX12_newEntry_61 : decode cX12_newEntry 61 = .ok (.aastore, 1) := by decide +kernel
theorem dX12_newEntry_62 : decode cX12_newEntry 62 = .ok (.aload_n 0, 1) := by decide +kernel
theorem dX12_newEntry_63 : decode cX12_newEntry 63 = .ok (.dup, 1) := by decide +kernel
theorem dX12_newEntry_64 : decode cX12_newEntry 64 = .ok (.getfield 203, 3) := by decide +kernel
theorem dX12_newEntry_67 : decode cX12_newEntry 67 = .ok (.iconst 1, 1) := by decide +kernel
theorem dX12_newEntry_68 : decode cX12_newEntry 68 = .ok (.iadd, 1) := by decide +kernel
theorem dX12_newEntry_69 : decode cX12_newEntry 69 = .ok (.putfield 203, 3) := by decide +kernel
theorem dX12_newEntry_72 : decode cX12_newEntry 72 = .ok (.aload_n 0, 1) := by decide +kernel
theorem dX12_newEntry_73 : decode cX12_newEntry 73 = .ok (.getfield 28, 3) := by decide +kernel
theorem dX12_newEntry_76 : decode cX12_newEntry 76 = .ok (.iconst (-1), 1) := by decide +kernel
theorem dX12_newEntry_77 : decode cX12_newEntry 77 = .ok (.aload_n 0, 1) := by decide +kernel
theorem dX12_newEntry_78 : decode cX12_newEntry 78 = .ok (.getfield 133, 3) := by decide +kernel
theorem dX12_newEntry_81 : decode cX12_newEntry 81 = .ok (.invokevirtual 212, 3) := by decide +kernel
theorem dX12_newEntry_84 : decode cX12_newEntry 84 = .ok (.aload 6, 2) := by decide +kernel
theorem dX12_newEntry_86 : decode cX12_newEntry 86 = .ok (.aload_n 0, 1) := by decide +kernel
theorem dX12_newEntry_87 : decode cX12_newEntry 87 = .ok (.aload 6, 2) := by decide +kernel
theorem dX12_newEntry_89 : decode cX12_newEntry 89 = .ok (.invokevirtual 216, 3) := by decide +kernel
theorem dX12_newEntry_92 : decode cX12_newEntry 92 = .ok (.putfield 220, 3) := by decide +kernel
theorem dX12_newEntry_95 : decode cX12_newEntry 95 = .ok (.aload 6, 2) := by decide +kernel
theorem dX12_newEntry_97 : decode cX12_newEntry 97 = .ok (.areturn, 1) := by decide +kernel
theorem dX12_sortIntoVolumes_0 : decode cX12_sortIntoVolumes 0 = .ok (.aload_n 0, 1) := by decide +kernel
theorem dX12_sortIntoVolumes_1 : decode cX12_sortIntoVolumes 1 = .ok (.getfield 28, 3) := by decide +kernel
theorem dX12_sortIntoVolumes_4 : decode cX12_sortIntoVolumes 4 = .ok (.iconst (-1), 1) := by decide +kernel
theorem dX12_sortIntoVolumes_5 : decode cX12_sortIntoVolumes 5 = .ok (.aload_n 0, 1) := by decide +kernel
theorem dX12_sortIntoVolumes_6 : decode cX12_sortIntoVolumes 6 = .ok (.getfield 133, 3) := by decide +kernel
theorem dX12_sortIntoVolumes_9 : decode cX12_sortIntoVolumes 9 = .ok (.invokevirtual 212, 3) := by decide +kernel
theorem dX12_sortIntoVolumes_12 : decode cX12_sortIntoVolumes 12 = .ok (.iconst 0, 1) := by decide +kernel
theorem dX12_sortIntoVolumes_13 : decode cX12_sortIntoVolumes 13 = .ok (.istore_n 1, 1) := by decide +kernel
theorem dX12_sortIntoVolumes_14 : decode cX12_sortIntoVolumes 14 = .ok (.iload_n 1, 1) := by decide +kernel
theorem dX12_sortIntoVolumes_15 : decode cX12_sortIntoVolumes 15 = .ok (.aload_n 0, 1) := by decide +kernel
theorem dX12_sortIntoVolumes_16 : decode cX12_sortIntoVolumes 16 = .ok (.getfield 203, 3) := by decide +kernel
theorem dX12_sortIntoVolumes_19 : decode cX12_sortIntoVolumes 19 = .ok (.if_icmp .ge 28, 3) := by decide +kernel
theorem dX12_sortIntoVolumes_47 : decode cX12_sortIntoVolumes 47 = .ok (.return_, 1) := by decide +kernel
theorem dX12_volumeByKey_0 : decode cX12_volumeByKey 0 = .ok (.aload_n 0, 1) := by decide +kernel
theorem dX12_volumeByKey_1 : decode cX12_volumeByKey 1 = .ok (.getfield 28, 3) := by decide +kernel
theorem dX12_volumeByKey_4 : decode cX12_volumeByKey 4 = .ok (.aload_n 1, 1) := by decide +kernel
theorem dX12_volumeByKey_5 : decode cX12_volumeByKey 5 = .ok (.invokevirtual 223, 3) := by decide +kernel
theorem dX12_volumeByKey_8 : decode cX12_volumeByKey 8 = .ok (.aload_n 1, 1) := by decide +kernel
theorem dX12_volumeByKey_9 : decode cX12_volumeByKey 9 = .ok (.aload_n 1, 1) := by decide +kernel
theorem dX12_volumeByKey_10 : decode cX12_volumeByKey 10 = .ok (.getfield 227, 3) := by decide +kernel
theorem dX12_volumeByKey_13 : decode cX12_volumeByKey 13 = .ok (.invokevirtual 230, 3) := by decide +kernel
theorem dX12_volumeByKey_16 : decode cX12_volumeByKey 16 = .ok (.istore_n 2, 1) := by decide +kernel
theorem dX12_volumeByKey_17 : decode cX12_volumeByKey 17 = .ok (.iconst 5, 1) := by decide +kernel
theorem dX12_volumeByKey_18 : decode cX12_volumeByKey 18 = .ok (.istore_n 3, 1) := by decide +kernel
theorem dX12_volumeByKey_19 : decode cX12_volumeByKey 19 = .ok (.iload_n 2, 1) := by decide +kernel
theorem dX12_volumeByKey_20 : decode cX12_volumeByKey 20 = .ok (.invokestatic 233, 3) := by decide +kernel
theorem dX12_volumeByKey_23 : decode cX12_volumeByKey 23 = .ok (.ifCond .eq 19, 3) := by decide +kernel
theorem dX12_volumeByKey_26 : decode cX12_volumeByKey 26 = .ok (.aload_n 0, 1) := by decide +kernel
theorem dX12_volumeByKey_27 : decode cX12_volumeByKey 27 = .ok (.getfield 28, 3) := by decide +kernel
theorem dX12_volumeByKey_30 : decode cX12_volumeByKey 30 = .ok (.getfield 236, 3) := by decide +kernel
theorem dX12_volumeByKey_33 : decode cX12_volumeByKey 33 = .ok (.ifCond .eq 7, 3) := by decide +kernel
theorem dX12_volumeByKey_36 : decode cX12_volumeByKey 36 = .ok (.iconst 0, 1) := by decide +kernel
theorem dX12_volumeByKey_37 : decode cX12_volumeByKey 37 = .ok (.goto 4, 3) := by decide +kernel
theorem dX12_volumeByKey_40 : decode cX12_volumeByKey 40 = .ok (.iload_n 3, 1) := by decide +kernel
theorem dX12_volumeByKey_41 : decode cX12_volumeByKey 41 = .ok (.ireturn, 1) := by decide +kernel
theorem dX12_volumeByKey_42 : decode cX12_volumeByKey 42 = .ok (.iconst 0, 1) := by decide +kernel
theorem dX12_volumeByKey_43 : decode cX12_volumeByKey 43 = .ok (.istore 4, 2) := by decide +kernel
theorem dX12_volumeByKey_45 : decode cX12_volumeByKey 45 = .ok (.iload 4, 2) := by decide +kernel
theorem dX12_volumeByKey_47 : decode cX12_volumeByKey 47 = .ok (.iload_n 3, 1) := by decide +kernel
theorem dX12_volumeByKey_48 : decode cX12_volumeByKey 48 = .ok (.if_icmp .ge 25, 3) := by decide +kernel
theorem dX12_volumeByKey_51 : decode cX12_volumeByKey 51 = .ok (.iload_n 2, 1) := by decide +kernel
theorem dX12_volumeByKey_52 : decode cX12_volumeByKey 52 = .ok (.bipush 97, 2) := by decide +kernel
theorem dX12_volumeByKey_54 : decode cX12_volumeByKey 54 = .ok (.isub, 1) := by decide +kernel
theorem dX12_volumeByKey_55 : decode cX12_volumeByKey 55 = .ok (.aload_n 0, 1) := by decide +kernel
theorem dX12_volumeByKey_56 : decode cX12_volumeByKey 56 = .ok (.iload 4, 2) := by decide +kernel
theorem dX12_volumeByKey_58 : decode cX12_volumeByKey 58 = .ok (.invokevirtual 161, 3) := by decide +kernel
theorem dX12_volumeByKey_61 : decode cX12_volumeByKey 61 = .ok (.if_icmp .gt 6, 3) := by decide +kernel
theorem dX12_volumeByKey_64 : decode cX12_volumeByKey 64 = .ok (.iload 4, 2) := by decide +kernel
theorem dX12_volumeByKey_66 : decode cX12_volumeByKey 66 = .ok (.ireturn, 1) := by decide +kernel
theorem dX12_volumeByKey_67 : decode cX12_volumeByKey 67 = .ok (.iinc 4 1, 3) := by decide +kernel
theorem dX12_volumeByKey_70 : decode cX12_volumeByKey 70 = .ok (.goto (-25), 3) := by decide +kernel
theorem dX12_volumeByKey_73 : decode cX12_volumeByKey 73 = .ok (.iload_n 3, 1) := by decide +kernel
theorem dX12_volumeByKey_74 : decode cX12_volumeByKey 74 = .ok (.ireturn, 1) := by decide +kernel
theorem dX12_entryAt_0 : decode cX12_entryAt 0 = .ok (.iload_n 1, 1) := by decide +kernel
theorem dX12_entryAt_1 : decode cX12_entryAt 1 = .ok (.ifCond .lt 26, 3) := by decide +kernel
theorem dX12_entryAt_4 : decode cX12_entryAt 4 = .ok (.iload_n 1, 1) := by decide +kernel
theorem dX12_entryAt_5 : decode cX12_entryAt 5 = .ok (.aload_n 0, 1) := by decide +kernel
theorem dX12_entryAt_6 : decode cX12_entryAt 6 = .ok (.getfield 203, 3) := by decide +kernel
theorem dX12_entryAt_9 : decode cX12_entryAt 9 = .ok (.if_icmp .ge 18, 3) := by decide +kernel
theorem dX12_entryAt_12 : decode cX12_entryAt 12 = .ok (.iload_n 1, 1) := by decide +kernel
theorem dX12_entryAt_13 : decode cX12_entryAt 13 = .ok (.bipush 60, 2) := by decide +kernel
theorem dX12_entryAt_15 : decode cX12_entryAt 15 = .ok (.if_icmp .ge 12, 3) := by decide +kernel
theorem dX12_entryAt_18 : decode cX12_entryAt 18 = .ok (.aload_n 0, 1) := by decide +kernel
theorem dX12_entryAt_19 : decode cX12_entryAt 19 = .ok (.getfield 43, 3) := by decide +kernel
theorem dX12_entryAt_22 : decode cX12_entryAt 22 = .ok (.iload_n 1, 1) := by decide +kernel
theorem dX12_entryAt_23 : decode cX12_entryAt 23 = .ok (.aaload, 1) := by decide +kernel
theorem dX12_entryAt_24 : decode cX12_entryAt 24 = .ok (.goto 4, 3) := by decide +kernel
theorem dX12_entryAt_27 : decode cX12_entryAt 27 = .ok (.aconst_null, 1) := by decide +kernel
theorem dX12_entryAt_28 : decode cX12_entryAt 28 = .ok (.areturn, 1) := by decide +kernel
theorem dX12_entryOfKind_0 : decode cX12_entryOfKind 0 = .ok (.aload_n 0, 1) := by decide +kernel
theorem dX12_entryOfKind_1 : decode cX12_entryOfKind 1 = .ok (.iload_n 1, 1) := by decide +kernel
theorem dX12_entryOfKind_2 : decode cX12_entryOfKind 2 = .ok (.invokevirtual 189, 3) := by decide +kernel
theorem dX12_entryOfKind_5 : decode cX12_entryOfKind 5 = .ok (.astore_n 3, 1) := by decide +kernel
theorem dX12_entryOfKind_6 : decode cX12_entryOfKind 6 = .ok (.aload_n 3, 1) := by decide +kernel
theorem dX12_entryOfKind_7 : decode cX12_entryOfKind 7 = .ok (.ifnull 15, 3) := by decide +kernel
theorem dX12_entryOfKind_22 : decode cX12_entryOfKind 22 = .ok (.aconst_null, 1) := by decide +kernel
theorem dX12_entryOfKind_23 : decode cX12_entryOfKind 23 = .ok (.areturn, 1) := by decide +kernel
theorem dX12_points_0 : decode cX12_points 0 = .ok (.aload_n 0, 1) := by decide +kernel
theorem dX12_points_1 : decode cX12_points 1 = .ok (.iload_n 1, 1) := by decide +kernel
theorem dX12_points_2 : decode cX12_points 2 = .ok (.iconst 1, 1) := by decide +kernel
theorem dX12_points_3 : decode cX12_points 3 = .ok (.invokevirtual 243, 3) := by decide +kernel
theorem dX12_points_6 : decode cX12_points 6 = .ok (.astore_n 3, 1) := by decide +kernel
theorem dX12_points_7 : decode cX12_points 7 = .ok (.aload_n 3, 1) := by decide +kernel
theorem dX12_points_8 : decode cX12_points 8 = .ok (.ifnull 19, 3) := by decide +kernel
theorem dX12_points_27 : decode cX12_points 27 = .ok (.iconst 0, 1) := by decide +kernel
theorem dX12_points_28 : decode cX12_points 28 = .ok (.ireturn, 1) := by decide +kernel
theorem dX12_strike_0 : decode cX12_strike 0 = .ok (.aload_n 0, 1) := by decide +kernel
theorem dX12_strike_1 : decode cX12_strike 1 = .ok (.iload_n 1, 1) := by decide +kernel
theorem dX12_strike_2 : decode cX12_strike 2 = .ok (.iconst 1, 1) := by decide +kernel
theorem dX12_strike_3 : decode cX12_strike 3 = .ok (.invokevirtual 250, 3) := by decide +kernel
theorem dX12_strike_6 : decode cX12_strike 6 = .ok (.ireturn, 1) := by decide +kernel
theorem dX12_later_0 : decode cX12_later 0 = .ok (.aload_n 0, 1) := by decide +kernel
theorem dX12_later_1 : decode cX12_later 1 = .ok (.iload_n 1, 1) := by decide +kernel
theorem dX12_later_2 : decode cX12_later 2 = .ok (.iconst 2, 1) := by decide +kernel
theorem dX12_later_3 : decode cX12_later 3 = .ok (.invokevirtual 250, 3) := by decide +kernel
theorem dX12_later_6 : decode cX12_later 6 = .ok (.ireturn, 1) := by decide +kernel
theorem dX12_sendAway_0 : decode cX12_sendAway 0 = .ok (.aload_n 0, 1) := by decide +kernel
theorem dX12_sendAway_1 : decode cX12_sendAway 1 = .ok (.iload_n 1, 1) := by decide +kernel
theorem dX12_sendAway_2 : decode cX12_sendAway 2 = .ok (.invokevirtual 189, 3) := by decide +kernel
theorem dX12_sendAway_5 : decode cX12_sendAway 5 = .ok (.astore_n 3, 1) := by decide +kernel
theorem dX12_sendAway_6 : decode cX12_sendAway 6 = .ok (.aload_n 3, 1) := by decide +kernel
theorem dX12_sendAway_7 : decode cX12_sendAway 7 = .ok (.ifnull 26, 3) := by decide +kernel
theorem dX12_sendAway_33 : decode cX12_sendAway 33 = .ok (.iconst 0, 1) := by decide +kernel
theorem dX12_sendAway_34 : decode cX12_sendAway 34 = .ok (.ireturn, 1) := by decide +kernel
theorem dX12_volume_0 : decode cX12_volume 0 = .ok (.aload_n 0, 1) := by decide +kernel
theorem dX12_volume_1 : decode cX12_volume 1 = .ok (.iload_n 1, 1) := by decide +kernel
theorem dX12_volume_2 : decode cX12_volume 2 = .ok (.invokevirtual 189, 3) := by decide +kernel
theorem dX12_volume_5 : decode cX12_volume 5 = .ok (.astore_n 2, 1) := by decide +kernel
theorem dX12_volume_6 : decode cX12_volume 6 = .ok (.aload_n 2, 1) := by decide +kernel
theorem dX12_volume_7 : decode cX12_volume 7 = .ok (.ifnonnull 7, 3) := by decide +kernel
theorem dX12_volume_10 : decode cX12_volume 10 = .ok (.iconst (-1), 1) := by decide +kernel
theorem dX12_volume_11 : decode cX12_volume 11 = .ok (.goto 8, 3) := by decide +kernel
theorem dX12_volume_19 : decode cX12_volume 19 = .ok (.ireturn, 1) := by decide +kernel
theorem dX12_at_0 : decode cX12_at 0 = .ok (.aload_n 0, 1) := by decide +kernel
theorem dX12_at_1 : decode cX12_at 1 = .ok (.iload_n 1, 1) := by decide +kernel
theorem dX12_at_2 : decode cX12_at 2 = .ok (.invokevirtual 166, 3) := by decide +kernel
theorem dX12_at_5 : decode cX12_at 5 = .ok (.astore_n 3, 1) := by decide +kernel
theorem dX12_at_6 : decode cX12_at 6 = .ok (.aload_n 3, 1) := by decide +kernel
theorem dX12_at_7 : decode cX12_at 7 = .ok (.ifnull 7, 3) := by decide +kernel
theorem dX12_at_10 : decode cX12_at 10 = .ok (.iload_n 2, 1) := by decide +kernel
theorem dX12_at_11 : decode cX12_at 11 = .ok (.ifCond .ge 5, 3) := by decide +kernel
theorem dX12_at_14 : decode cX12_at 14 = .ok (.iconst (-1), 1) := by decide +kernel
theorem dX12_at_15 : decode cX12_at 15 = .ok (.ireturn, 1) := by decide +kernel
theorem dX12_at_16 : decode cX12_at 16 = .ok (.aload_n 3, 1) := by decide +kernel
theorem dX12_at_17 : decode cX12_at 17 = .ok (.getfield 170, 3) := by decide +kernel
theorem dX12_at_20 : decode cX12_at 20 = .ok (.iconst (-1), 1) := by decide +kernel
theorem dX12_at_21 : decode cX12_at 21 = .ok (.if_icmp .eq 23, 3) := by decide +kernel
theorem dX12_at_44 : decode cX12_at 44 = .ok (.aload_n 0, 1) := by decide +kernel
theorem dX12_at_45 : decode cX12_at 45 = .ok (.iload_n 1, 1) := by decide +kernel
theorem dX12_at_46 : decode cX12_at 46 = .ok (.invokevirtual 265, 3) := by decide +kernel
theorem dX12_at_49 : decode cX12_at 49 = .ok (.iload_n 2, 1) := by decide +kernel
theorem dX12_at_50 : decode cX12_at 50 = .ok (.aload_n 0, 1) := by decide +kernel
theorem dX12_at_51 : decode cX12_at 51 = .ok (.getfield 268, 3) := by decide +kernel
theorem dX12_at_54 : decode cX12_at 54 = .ok (.if_icmp .ge 21, 3) := by decide +kernel
theorem dX12_at_75 : decode cX12_at 75 = .ok (.iconst (-1), 1) := by decide +kernel
theorem dX12_at_76 : decode cX12_at 76 = .ok (.ireturn, 1) := by decide +kernel
theorem dX12_arrange_0 : decode cX12_arrange 0 = .ok (.aload_n 0, 1) := by decide +kernel
theorem dX12_arrange_1 : decode cX12_arrange 1 = .ok (.iconst 0, 1) := by decide +kernel
theorem dX12_arrange_2 : decode cX12_arrange 2 = .ok (.putfield 268, 3) := by decide +kernel
theorem dX12_arrange_5 : decode cX12_arrange 5 = .ok (.aload_n 0, 1) := by decide +kernel
theorem dX12_arrange_6 : decode cX12_arrange 6 = .ok (.getfield 28, 3) := by decide +kernel
theorem dX12_arrange_9 : decode cX12_arrange 9 = .ok (.iload_n 1, 1) := by decide +kernel
theorem dX12_arrange_10 : decode cX12_arrange 10 = .ok (.aload_n 0, 1) := by decide +kernel
theorem dX12_arrange_11 : decode cX12_arrange 11 = .ok (.getfield 133, 3) := by decide +kernel
theorem dX12_arrange_14 : decode cX12_arrange 14 = .ok (.invokevirtual 212, 3) := by decide +kernel
theorem dX12_arrange_17 : decode cX12_arrange 17 = .ok (.iconst 0, 1) := by decide +kernel
theorem dX12_arrange_18 : decode cX12_arrange 18 = .ok (.istore_n 2, 1) := by decide +kernel
theorem dX12_arrange_19 : decode cX12_arrange 19 = .ok (.iload_n 2, 1) := by decide +kernel
theorem dX12_arrange_20 : decode cX12_arrange 20 = .ok (.aload_n 0, 1) := by decide +kernel
theorem dX12_arrange_21 : decode cX12_arrange 21 = .ok (.getfield 203, 3) := by decide +kernel
theorem dX12_arrange_24 : decode cX12_arrange 24 = .ok (.if_icmp .ge 49, 3) := by decide +kernel
theorem dX12_arrange_73 : decode cX12_arrange 73 = .ok (.return_, 1) := by decide +kernel
theorem dX12_why_0 : decode cX12_why 0 = .ok (.aload_n 0, 1) := by decide +kernel
theorem dX12_why_1 : decode cX12_why 1 = .ok (.iload_n 1, 1) := by decide +kernel
theorem dX12_why_2 : decode cX12_why 2 = .ok (.invokevirtual 189, 3) := by decide +kernel
theorem dX12_why_5 : decode cX12_why 5 = .ok (.astore_n 3, 1) := by decide +kernel
theorem dX12_why_6 : decode cX12_why 6 = .ok (.aload_n 0, 1) := by decide +kernel
theorem dX12_why_7 : decode cX12_why 7 = .ok (.iload_n 2, 1) := by decide +kernel
theorem dX12_why_8 : decode cX12_why 8 = .ok (.invokevirtual 189, 3) := by decide +kernel
theorem dX12_why_11 : decode cX12_why 11 = .ok (.astore 4, 2) := by decide +kernel
theorem dX12_why_13 : decode cX12_why 13 = .ok (.aload_n 3, 1) := by decide +kernel
theorem dX12_why_14 : decode cX12_why 14 = .ok (.ifnull 13, 3) := by decide +kernel
theorem dX12_why_27 : decode cX12_why 27 = .ok (.iconst (-1), 1) := by decide +kernel
theorem dX12_why_28 : decode cX12_why 28 = .ok (.ireturn, 1) := by decide +kernel
theorem dX12_hand_0 : decode cX12_hand 0 = .ok (.iload_n 1, 1) := by decide +kernel
theorem dX12_hand_1 : decode cX12_hand 1 = .ok (.iconst 1, 1) := by decide +kernel
theorem dX12_hand_2 : decode cX12_hand 2 = .ok (.if_icmp .lt 36, 3) := by decide +kernel
theorem dX12_hand_5 : decode cX12_hand 5 = .ok (.iload_n 1, 1) := by decide +kernel
theorem dX12_hand_6 : decode cX12_hand 6 = .ok (.sipush 255, 3) := by decide +kernel
theorem dX12_hand_9 : decode cX12_hand 9 = .ok (.if_icmp .gt 29, 3) := by decide +kernel
theorem dX12_hand_12 : decode cX12_hand 12 = .ok (.iload_n 2, 1) := by decide +kernel
theorem dX12_hand_13 : decode cX12_hand 13 = .ok (.iconst 1, 1) := by decide +kernel
theorem dX12_hand_14 : decode cX12_hand 14 = .ok (.if_icmp .lt 24, 3) := by decide +kernel
theorem dX12_hand_17 : decode cX12_hand 17 = .ok (.iload_n 2, 1) := by decide +kernel
theorem dX12_hand_18 : decode cX12_hand 18 = .ok (.bipush 20, 2) := by decide +kernel
theorem dX12_hand_20 : decode cX12_hand 20 = .ok (.if_icmp .gt 18, 3) := by decide +kernel
theorem dX12_hand_23 : decode cX12_hand 23 = .ok (.iload_n 3, 1) := by decide +kernel
theorem dX12_hand_24 : decode cX12_hand 24 = .ok (.ldc_w 291, 3) := by decide +kernel
theorem dX12_hand_27 : decode cX12_hand 27 = .ok (.if_icmp .lt 11, 3) := by decide +kernel
theorem dX12_hand_30 : decode cX12_hand 30 = .ok (.iload_n 3, 1) := by decide +kernel
theorem dX12_hand_31 : decode cX12_hand 31 = .ok (.ifCond .gt 7, 3) := by decide +kernel
theorem dX12_hand_34 : decode cX12_hand 34 = .ok (.iconst 1, 1) := by decide +kernel
theorem dX12_hand_35 : decode cX12_hand 35 = .ok (.goto 4, 3) := by decide +kernel
theorem dX12_hand_38 : decode cX12_hand 38 = .ok (.iconst 0, 1) := by decide +kernel
theorem dX12_hand_39 : decode cX12_hand 39 = .ok (.istore 4, 2) := by decide +kernel
theorem dX12_hand_41 : decode cX12_hand 41 = .ok (.iload 4, 2) := by decide +kernel
theorem dX12_hand_43 : decode cX12_hand 43 = .ok (.ifCond .eq 12, 3) := by decide +kernel
theorem dX12_hand_46 : decode cX12_hand 46 = .ok (.aload_n 0, 1) := by decide +kernel
theorem dX12_hand_47 : decode cX12_hand 47 = .ok (.getfield 292, 3) := by decide +kernel
theorem dX12_hand_50 : decode cX12_hand 50 = .ok (.bipush 12, 2) := by decide +kernel
theorem dX12_hand_52 : decode cX12_hand 52 = .ok (.if_icmp .lt 5, 3) := by decide +kernel
theorem dX12_hand_55 : decode cX12_hand 55 = .ok (.iconst (-1), 1) := by decide +kernel
theorem dX12_hand_56 : decode cX12_hand 56 = .ok (.ireturn, 1) := by decide +kernel
theorem dX12_hand_57 : decode cX12_hand 57 = .ok (.aload_n 0, 1) := by decide +kernel
theorem dX12_hand_58 : decode cX12_hand 58 = .ok (.getfield 53, 3) := by decide +kernel
theorem dX12_hand_61 : decode cX12_hand 61 = .ok (.aload_n 0, 1) := by decide +kernel
theorem dX12_hand_62 : decode cX12_hand 62 = .ok (.getfield 292, 3) := by decide +kernel
theorem dX12_hand_65 : decode cX12_hand 65 = .ok (.new 51, 3) := by decide +kernel
theorem dX12_hand_68 : decode cX12_hand 68 = .ok (.dup, 1) := by decide +kernel
theorem dX12_hand_69 : decode cX12_hand 69 = .ok (.iload_n 1, 1) := by decide +kernel
theorem dX12_hand_70 : decode cX12_hand 70 = .ok (.iload_n 2, 1) := by decide +kernel
theorem dX12_hand_71 : decode cX12_hand 71 = .ok (.iload_n 3, 1) := by decide +kernel
theorem dX12_hand_72 : decode cX12_hand 72 = .ok (.invokespecial 295, 3) := by decide +kernel
theorem dX12_hand_75 : decode cX12_hand 75 = .ok (.aastore, 1) := by decide +kernel
theorem dX12_hand_76 : decode cX12_hand 76 = .ok (.aload_n 0, 1) := by decide +kernel
theorem dX12_hand_77 : decode cX12_hand 77 = .ok (.dup, 1) := by decide +kernel
theorem dX12_hand_78 : decode cX12_hand 78 = .ok (.getfield 292, 3) := by decide +kernel
theorem dX12_hand_81 : decode cX12_hand 81 = .ok (.iconst 1, 1) := by decide +kernel
theorem dX12_hand_82 : decode cX12_hand 82 = .ok (.iadd, 1) := by decide +kernel
theorem dX12_hand_83 : decode cX12_hand 83 = .ok (.putfield 292, 3) := by decide +kernel
theorem dX12_hand_86 : decode cX12_hand 86 = .ok (.aload_n 0, 1) := by decide +kernel
theorem dX12_hand_87 : decode cX12_hand 87 = .ok (.getfield 292, 3) := by decide +kernel
theorem dX12_hand_90 : decode cX12_hand 90 = .ok (.iconst 1, 1) := by decide +kernel
theorem dX12_hand_91 : decode cX12_hand 91 = .ok (.isub, 1) := by decide +kernel
theorem dX12_hand_92 : decode cX12_hand 92 = .ok (.ireturn, 1) := by decide +kernel
theorem dX12_handAt_0 : decode cX12_handAt 0 = .ok (.iload_n 1, 1) := by decide +kernel
theorem dX12_handAt_1 : decode cX12_handAt 1 = .ok (.ifCond .lt 26, 3) := by decide +kernel
theorem dX12_handAt_4 : decode cX12_handAt 4 = .ok (.iload_n 1, 1) := by decide +kernel
theorem dX12_handAt_5 : decode cX12_handAt 5 = .ok (.aload_n 0, 1) := by decide +kernel
theorem dX12_handAt_6 : decode cX12_handAt 6 = .ok (.getfield 292, 3) := by decide +kernel
theorem dX12_handAt_9 : decode cX12_handAt 9 = .ok (.if_icmp .ge 18, 3) := by decide +kernel
theorem dX12_handAt_27 : decode cX12_handAt 27 = .ok (.aconst_null, 1) := by decide +kernel
theorem dX12_handAt_28 : decode cX12_handAt 28 = .ok (.areturn, 1) := by decide +kernel
theorem dX12_livingHandAt_0 : decode cX12_livingHandAt 0 = .ok (.aload_n 0, 1) := by decide +kernel
theorem dX12_livingHandAt_1 : decode cX12_livingHandAt 1 = .ok (.iload_n 1, 1) := by decide +kernel
theorem dX12_livingHandAt_2 : decode cX12_livingHandAt 2 = .ok (.invokevirtual 296, 3) := by decide +kernel
theorem dX12_livingHandAt_5 : decode cX12_livingHandAt 5 = .ok (.astore_n 2, 1) := by decide +kernel
theorem dX12_livingHandAt_6 : decode cX12_livingHandAt 6 = .ok (.aload_n 2, 1) := by decide +kernel
theorem dX12_livingHandAt_7 : decode cX12_livingHandAt 7 = .ok (.ifnull 14, 3) := by decide +kernel
theorem dX12_livingHandAt_21 : decode cX12_livingHandAt 21 = .ok (.aconst_null, 1) := by decide +kernel
theorem dX12_livingHandAt_22 : decode cX12_livingHandAt 22 = .ok (.areturn, 1) := by decide +kernel
theorem dX12_enemies_0 : decode cX12_enemies 0 = .ok (.aload_n 0, 1) := by decide +kernel
theorem dX12_enemies_1 : decode cX12_enemies 1 = .ok (.iload_n 1, 1) := by decide +kernel
theorem dX12_enemies_2 : decode cX12_enemies 2 = .ok (.invokevirtual 296, 3) := by decide +kernel
theorem dX12_enemies_5 : decode cX12_enemies 5 = .ok (.astore_n 3, 1) := by decide +kernel
theorem dX12_enemies_6 : decode cX12_enemies 6 = .ok (.aload_n 0, 1) := by decide +kernel
theorem dX12_enemies_7 : decode cX12_enemies 7 = .ok (.iload_n 2, 1) := by decide +kernel
theorem dX12_enemies_8 : decode cX12_enemies 8 = .ok (.invokevirtual 296, 3) := by decide +kernel
theorem dX12_enemies_11 : decode cX12_enemies 11 = .ok (.astore 4, 2) := by decide +kernel
theorem dX12_enemies_13 : decode cX12_enemies 13 = .ok (.aload_n 3, 1) := by decide +kernel
theorem dX12_enemies_14 : decode cX12_enemies 14 = .ok (.ifnull 24, 3) := by decide +kernel
theorem dX12_enemies_38 : decode cX12_enemies 38 = .ok (.iconst 0, 1) := by decide +kernel
theorem dX12_enemies_39 : decode cX12_enemies 39 = .ok (.ireturn, 1) := by decide +kernel
theorem dX12_give_0 : decode cX12_give 0 = .ok (.aload_n 0, 1) := by decide +kernel
theorem dX12_give_1 : decode cX12_give 1 = .ok (.iload_n 1, 1) := by decide +kernel
theorem dX12_give_2 : decode cX12_give 2 = .ok (.iconst 0, 1) := by decide +kernel
theorem dX12_give_3 : decode cX12_give 3 = .ok (.invokevirtual 243, 3) := by decide +kernel
theorem dX12_give_6 : decode cX12_give 6 = .ok (.astore_n 3, 1) := by decide +kernel
theorem dX12_give_7 : decode cX12_give 7 = .ok (.aload_n 3, 1) := by decide +kernel
theorem dX12_give_8 : decode cX12_give 8 = .ok (.ifnull 19, 3) := by decide +kernel
theorem dX12_give_27 : decode cX12_give 27 = .ok (.iconst 0, 1) := by decide +kernel
theorem dX12_give_28 : decode cX12_give 28 = .ok (.ireturn, 1) := by decide +kernel
theorem dX12_line_0 : decode cX12_line 0 = .ok (.aload_n 0, 1) := by decide +kernel
theorem dX12_line_1 : decode cX12_line 1 = .ok (.iload_n 1, 1) := by decide +kernel
theorem dX12_line_2 : decode cX12_line 2 = .ok (.iconst 0, 1) := by decide +kernel
theorem dX12_line_3 : decode cX12_line 3 = .ok (.invokevirtual 243, 3) := by decide +kernel
theorem dX12_line_6 : decode cX12_line 6 = .ok (.astore 4, 2) := by decide +kernel
theorem dX12_line_8 : decode cX12_line 8 = .ok (.aload 4, 2) := by decide +kernel
theorem dX12_line_10 : decode cX12_line 10 = .ok (.ifnull 29, 3) := by decide +kernel
theorem dX12_line_39 : decode cX12_line 39 = .ok (.iconst (-1), 1) := by decide +kernel
theorem dX12_line_40 : decode cX12_line 40 = .ok (.ireturn, 1) := by decide +kernel
theorem dX12_lineAt_0 : decode cX12_lineAt 0 = .ok (.iload_n 1, 1) := by decide +kernel
theorem dX12_lineAt_1 : decode cX12_lineAt 1 = .ok (.ifCond .lt 27, 3) := by decide +kernel
theorem dX12_lineAt_4 : decode cX12_lineAt 4 = .ok (.iload_n 1, 1) := by decide +kernel
theorem dX12_lineAt_5 : decode cX12_lineAt 5 = .ok (.aload_n 0, 1) := by decide +kernel
theorem dX12_lineAt_6 : decode cX12_lineAt 6 = .ok (.getfield 370, 3) := by decide +kernel
theorem dX12_lineAt_9 : decode cX12_lineAt 9 = .ok (.if_icmp .ge 19, 3) := by decide +kernel
theorem dX12_lineAt_28 : decode cX12_lineAt 28 = .ok (.aconst_null, 1) := by decide +kernel
theorem dX12_lineAt_29 : decode cX12_lineAt 29 = .ok (.areturn, 1) := by decide +kernel
theorem dX12_die_0 : decode cX12_die 0 = .ok (.aload_n 0, 1) := by decide +kernel
theorem dX12_die_1 : decode cX12_die 1 = .ok (.iload_n 1, 1) := by decide +kernel
theorem dX12_die_2 : decode cX12_die 2 = .ok (.invokevirtual 316, 3) := by decide +kernel
theorem dX12_die_5 : decode cX12_die 5 = .ok (.astore_n 2, 1) := by decide +kernel
theorem dX12_die_6 : decode cX12_die 6 = .ok (.aload_n 2, 1) := by decide +kernel
theorem dX12_die_7 : decode cX12_die 7 = .ok (.ifnonnull 5, 3) := by decide +kernel
theorem dX12_die_10 : decode cX12_die 10 = .ok (.iconst (-1), 1) := by decide +kernel
theorem dX12_die_11 : decode cX12_die 11 = .ok (.ireturn, 1) := by decide +kernel
theorem dX12_takers_0 : decode cX12_takers 0 = .ok (.aload_n 0, 1) := by decide +kernel
theorem dX12_takers_1 : decode cX12_takers 1 = .ok (.iload_n 1, 1) := by decide +kernel
theorem dX12_takers_2 : decode cX12_takers 2 = .ok (.invokevirtual 189, 3) := by decide +kernel
theorem dX12_takers_5 : decode cX12_takers 5 = .ok (.astore_n 2, 1) := by decide +kernel
theorem dX12_takers_6 : decode cX12_takers 6 = .ok (.aload_n 2, 1) := by decide +kernel
theorem dX12_takers_7 : decode cX12_takers 7 = .ok (.ifnull 11, 3) := by decide +kernel
theorem dX12_takers_18 : decode cX12_takers 18 = .ok (.iconst (-1), 1) := by decide +kernel
theorem dX12_takers_19 : decode cX12_takers 19 = .ok (.ireturn, 1) := by decide +kernel
theorem dX12_tell_0 : decode cX12_tell 0 = .ok (.iload_n 1, 1) := by decide +kernel
theorem dX12_tell_1 : decode cX12_tell 1 = .ok (.ifCond .lt 28, 3) := by decide +kernel
theorem dX12_tell_4 : decode cX12_tell 4 = .ok (.iload_n 1, 1) := by decide +kernel
theorem dX12_tell_5 : decode cX12_tell 5 = .ok (.bipush 40, 2) := by decide +kernel
theorem dX12_tell_7 : decode cX12_tell 7 = .ok (.if_icmp .ge 22, 3) := by decide +kernel
theorem dX12_tell_10 : decode cX12_tell 10 = .ok (.iload_n 2, 1) := by decide +kernel
theorem dX12_tell_11 : decode cX12_tell 11 = .ok (.ifCond .lt 18, 3) := by decide +kernel
theorem dX12_tell_14 : decode cX12_tell 14 = .ok (.iload_n 2, 1) := by decide +kernel
theorem dX12_tell_15 : decode cX12_tell 15 = .ok (.sipush 999, 3) := by decide +kernel
theorem dX12_tell_18 : decode cX12_tell 18 = .ok (.if_icmp .gt 11, 3) := by decide +kernel
theorem dX12_tell_21 : decode cX12_tell 21 = .ok (.iload_n 3, 1) := by decide +kernel
theorem dX12_tell_22 : decode cX12_tell 22 = .ok (.ifCond .lt 7, 3) := by decide +kernel
theorem dX12_tell_25 : decode cX12_tell 25 = .ok (.iconst 1, 1) := by decide +kernel
theorem dX12_tell_26 : decode cX12_tell 26 = .ok (.goto 4, 3) := by decide +kernel
theorem dX12_tell_29 : decode cX12_tell 29 = .ok (.iconst 0, 1) := by decide +kernel
theorem dX12_tell_30 : decode cX12_tell 30 = .ok (.istore 4, 2) := by decide +kernel
theorem dX12_tell_32 : decode cX12_tell 32 = .ok (.iload 4, 2) := by decide +kernel
theorem dX12_tell_34 : decode cX12_tell 34 = .ok (.ifCond .eq 24, 3) := by decide +kernel
theorem dX12_tell_37 : decode cX12_tell 37 = .ok (.aload_n 0, 1) := by decide +kernel
theorem dX12_tell_38 : decode cX12_tell 38 = .ok (.getfield 66, 3) := by decide +kernel
theorem dX12_tell_41 : decode cX12_tell 41 = .ok (.iload_n 1, 1) := by decide +kernel
theorem dX12_tell_42 : decode cX12_tell 42 = .ok (.iload_n 2, 1) := by decide +kernel
theorem dX12_tell_43 : decode cX12_tell 43 = .ok (.iload_n 3, 1) := by decide +kernel
theorem dX12_tell_44 : decode cX12_tell 44 = .ok (.aload_n 0, 1) := by decide +kernel
theorem dX12_tell_45 : decode cX12_tell 45 = .ok (.getfield 133, 3) := by decide +kernel
theorem dX12_tell_48 : decode cX12_tell 48 = .ok (.invokevirtual 408, 3) := by decide +kernel
theorem dX12_tell_51 : decode cX12_tell 51 = .ok (.ifCond .eq 7, 3) := by decide +kernel
theorem dX12_tell_54 : decode cX12_tell 54 = .ok (.iconst 1, 1) := by decide +kernel
theorem dX12_tell_55 : decode cX12_tell 55 = .ok (.goto 4, 3) := by decide +kernel
theorem dX12_tell_58 : decode cX12_tell 58 = .ok (.iconst 0, 1) := by decide +kernel
theorem dX12_tell_59 : decode cX12_tell 59 = .ok (.ireturn, 1) := by decide +kernel
theorem dX12_known_0 : decode cX12_known 0 = .ok (.iload_n 2, 1) := by decide +kernel
theorem dX12_known_1 : decode cX12_known 1 = .ok (.ifCond .lt 10, 3) := by decide +kernel
theorem dX12_known_4 : decode cX12_known 4 = .ok (.iload_n 2, 1) := by decide +kernel
theorem dX12_known_5 : decode cX12_known 5 = .ok (.sipush 2000, 3) := by decide +kernel
theorem dX12_known_8 : decode cX12_known 8 = .ok (.if_icmp .le 5, 3) := by decide +kernel
theorem dX12_known_11 : decode cX12_known 11 = .ok (.iconst (-1), 1) := by decide +kernel
theorem dX12_known_12 : decode cX12_known 12 = .ok (.ireturn, 1) := by decide +kernel
theorem dX12_known_13 : decode cX12_known 13 = .ok (.iload_n 3, 1) := by decide +kernel
theorem dX12_known_14 : decode cX12_known 14 = .ok (.ifCond .ne 13, 3) := by decide +kernel
theorem dX12_known_17 : decode cX12_known 17 = .ok (.aload_n 0, 1) := by decide +kernel
theorem dX12_known_18 : decode cX12_known 18 = .ok (.getfield 66, 3) := by decide +kernel
theorem dX12_known_21 : decode cX12_known 21 = .ok (.iload_n 1, 1) := by decide +kernel
theorem dX12_known_22 : decode cX12_known 22 = .ok (.iload_n 2, 1) := by decide +kernel
theorem dX12_known_23 : decode cX12_known 23 = .ok (.invokevirtual 389, 3) := by decide +kernel
theorem dX12_known_26 : decode cX12_known 26 = .ok (.ireturn, 1) := by decide +kernel
theorem dX12_known_27 : decode cX12_known 27 = .ok (.iload_n 3, 1) := by decide +kernel
theorem dX12_known_28 : decode cX12_known 28 = .ok (.iconst 1, 1) := by decide +kernel
theorem dX12_known_29 : decode cX12_known 29 = .ok (.if_icmp .ne 15, 3) := by decide +kernel
theorem dX12_known_32 : decode cX12_known 32 = .ok (.aload_n 0, 1) := by decide +kernel
theorem dX12_known_33 : decode cX12_known 33 = .ok (.getfield 66, 3) := by decide +kernel
theorem dX12_known_36 : decode cX12_known 36 = .ok (.iload_n 1, 1) := by decide +kernel
theorem dX12_known_37 : decode cX12_known 37 = .ok (.iload_n 2, 1) := by decide +kernel
theorem dX12_known_38 : decode cX12_known 38 = .ok (.invokevirtual 412, 3) := by decide +kernel
theorem dX12_known_41 : decode cX12_known 41 = .ok (.goto 4, 3) := by decide +kernel
theorem dX12_known_44 : decode cX12_known 44 = .ok (.iconst (-1), 1) := by decide +kernel
theorem dX12_known_45 : decode cX12_known 45 = .ok (.ireturn, 1) := by decide +kernel
theorem dX12_stale_0 : decode cX12_stale 0 = .ok (.aload_n 0, 1) := by decide +kernel
theorem dX12_stale_1 : decode cX12_stale 1 = .ok (.iload_n 1, 1) := by decide +kernel
theorem dX12_stale_2 : decode cX12_stale 2 = .ok (.invokevirtual 392, 3) := by decide +kernel
theorem dX12_stale_5 : decode cX12_stale 5 = .ok (.astore_n 3, 1) := by decide +kernel
theorem dX12_stale_6 : decode cX12_stale 6 = .ok (.aload_n 3, 1) := by decide +kernel
theorem dX12_stale_7 : decode cX12_stale 7 = .ok (.ifnull 27, 3) := by decide +kernel
theorem dX12_stale_34 : decode cX12_stale 34 = .ok (.iconst 0, 1) := by decide +kernel
theorem dX12_stale_35 : decode cX12_stale 35 = .ok (.ireturn, 1) := by decide +kernel
theorem dX12_stales_0 : decode cX12_stales 0 = .ok (.aload_n 0, 1) := by decide +kernel
theorem dX12_stales_1 : decode cX12_stales 1 = .ok (.iload_n 1, 1) := by decide +kernel
theorem dX12_stales_2 : decode cX12_stales 2 = .ok (.invokevirtual 189, 3) := by decide +kernel
theorem dX12_stales_5 : decode cX12_stales 5 = .ok (.ifnonnull 5, 3) := by decide +kernel
theorem dX12_stales_8 : decode cX12_stales 8 = .ok (.iconst (-1), 1) := by decide +kernel
theorem dX12_stales_9 : decode cX12_stales 9 = .ok (.ireturn, 1) := by decide +kernel
theorem dX12_mend_0 : decode cX12_mend 0 = .ok (.aload_n 0, 1) := by decide +kernel
theorem dX12_mend_1 : decode cX12_mend 1 = .ok (.iload_n 1, 1) := by decide +kernel
theorem dX12_mend_2 : decode cX12_mend 2 = .ok (.invokevirtual 392, 3) := by decide +kernel
theorem dX12_mend_5 : decode cX12_mend 5 = .ok (.astore_n 2, 1) := by decide +kernel
theorem dX12_mend_6 : decode cX12_mend 6 = .ok (.aload_n 2, 1) := by decide +kernel
theorem dX12_mend_7 : decode cX12_mend 7 = .ok (.ifnull 19, 3) := by decide +kernel
theorem dX12_mend_26 : decode cX12_mend 26 = .ok (.iconst (-1), 1) := by decide +kernel
theorem dX12_mend_27 : decode cX12_mend 27 = .ok (.ireturn, 1) := by decide +kernel
theorem dX12_erratum_0 : decode cX12_erratum 0 = .ok (.aload_n 0, 1) := by decide +kernel
theorem dX12_erratum_1 : decode cX12_erratum 1 = .ok (.iload_n 1, 1) := by decide +kernel
theorem dX12_erratum_2 : decode cX12_erratum 2 = .ok (.invokevirtual 392, 3) := by decide +kernel
theorem dX12_erratum_5 : decode cX12_erratum 5 = .ok (.astore 4, 2) := by decide +kernel
theorem dX12_erratum_7 : decode cX12_erratum 7 = .ok (.aload 4, 2) := by decide +kernel
theorem dX12_erratum_9 : decode cX12_erratum 9 = .ok (.ifnull 21, 3) := by decide +kernel
theorem dX12_erratum_30 : decode cX12_erratum 30 = .ok (.iconst (-1), 1) := by decide +kernel
theorem dX12_erratum_31 : decode cX12_erratum 31 = .ok (.ireturn, 1) := by decide +kernel
theorem dX12_misses_0 : decode cX12_misses 0 = .ok (.aload_n 0, 1) := by decide +kernel
theorem dX12_misses_1 : decode cX12_misses 1 = .ok (.getfield 66, 3) := by decide +kernel
theorem dX12_misses_4 : decode cX12_misses 4 = .ok (.iload_n 1, 1) := by decide +kernel
theorem dX12_misses_5 : decode cX12_misses 5 = .ok (.invokevirtual 433, 3) := by decide +kernel
theorem dX12_misses_8 : decode cX12_misses 8 = .ok (.ireturn, 1) := by decide +kernel
theorem dX12_told_0 : decode cX12_told 0 = .ok (.aload_n 0, 1) := by decide +kernel
theorem dX12_told_1 : decode cX12_told 1 = .ok (.iload_n 1, 1) := by decide +kernel
theorem dX12_told_2 : decode cX12_told 2 = .ok (.invokevirtual 392, 3) := by decide +kernel
theorem dX12_told_5 : decode cX12_told 5 = .ok (.astore_n 3, 1) := by decide +kernel
theorem dX12_told_6 : decode cX12_told 6 = .ok (.aload_n 3, 1) := by decide +kernel
theorem dX12_told_7 : decode cX12_told 7 = .ok (.ifnonnull 5, 3) := by decide +kernel
theorem dX12_told_10 : decode cX12_told 10 = .ok (.iconst (-1), 1) := by decide +kernel
theorem dX12_told_11 : decode cX12_told 11 = .ok (.ireturn, 1) := by decide +kernel
theorem dX12_set_0 : decode cX12_set 0 = .ok (.aload_n 0, 1) := by decide +kernel
theorem dX12_set_1 : decode cX12_set 1 = .ok (.iload_n 1, 1) := by decide +kernel
theorem dX12_set_2 : decode cX12_set 2 = .ok (.invokevirtual 166, 3) := by decide +kernel
theorem dX12_set_5 : decode cX12_set 5 = .ok (.astore_n 2, 1) := by decide +kernel
theorem dX12_set_6 : decode cX12_set 6 = .ok (.aload_n 2, 1) := by decide +kernel
theorem dX12_set_7 : decode cX12_set 7 = .ok (.ifnull 11, 3) := by decide +kernel
theorem dX12_set_10 : decode cX12_set 10 = .ok (.aload_n 2, 1) := by decide +kernel
theorem dX12_set_11 : decode cX12_set 11 = .ok (.getfield 170, 3) := by decide +kernel
theorem dX12_set_14 : decode cX12_set 14 = .ok (.iconst (-1), 1) := by decide +kernel
theorem dX12_set_15 : decode cX12_set 15 = .ok (.if_icmp .eq 5, 3) := by decide +kernel
theorem dX12_set_18 : decode cX12_set 18 = .ok (.iconst (-1), 1) := by decide +kernel
theorem dX12_set_19 : decode cX12_set 19 = .ok (.ireturn, 1) := by decide +kernel
theorem dX12_set_20 : decode cX12_set 20 = .ok (.aload_n 0, 1) := by decide +kernel
theorem dX12_set_21 : decode cX12_set 21 = .ok (.iload_n 1, 1) := by decide +kernel
theorem dX12_set_22 : decode cX12_set 22 = .ok (.invokevirtual 265, 3) := by decide +kernel
theorem dX12_set_25 : decode cX12_set 25 = .ok (.aload_n 0, 1) := by decide +kernel
theorem dX12_set_26 : decode cX12_set 26 = .ok (.invokevirtual 443, 3) := by decide +kernel
theorem dX12_set_29 : decode cX12_set 29 = .ok (.ifCond .ne 5, 3) := by decide +kernel
theorem dX12_set_34 : decode cX12_set 34 = .ok (.aload_n 0, 1) := by decide +kernel
theorem dX12_set_35 : decode cX12_set 35 = .ok (.aload_n 2, 1) := by decide +kernel
theorem dX12_set_36 : decode cX12_set 36 = .ok (.iload_n 1, 1) := by decide +kernel
theorem dX12_set_37 : decode cX12_set 37 = .ok (.invokevirtual 446, 3) := by decide +kernel
theorem dX12_set_40 : decode cX12_set 40 = .ok (.aload_n 2, 1) := by decide +kernel
theorem dX12_set_41 : decode cX12_set 41 = .ok (.getfield 450, 3) := by decide +kernel
theorem dX12_set_44 : decode cX12_set 44 = .ok (.bipush 40, 2) := by decide +kernel
theorem dX12_set_46 : decode cX12_set 46 = .ok (.iadd, 1) := by decide +kernel
theorem dX12_set_47 : decode cX12_set 47 = .ok (.iconst 1, 1) := by decide +kernel
theorem dX12_set_48 : decode cX12_set 48 = .ok (.isub, 1) := by decide +kernel
theorem dX12_set_49 : decode cX12_set 49 = .ok (.bipush 40, 2) := by decide +kernel
theorem dX12_set_51 : decode cX12_set 51 = .ok (.idiv, 1) := by decide +kernel
theorem dX12_set_52 : decode cX12_set 52 = .ok (.ireturn, 1) := by decide +kernel
theorem dX12_rowMayBeSet_0 : decode cX12_rowMayBeSet 0 = .ok (.iconst 0, 1) := by decide +kernel
theorem dX12_rowMayBeSet_1 : decode cX12_rowMayBeSet 1 = .ok (.istore_n 1, 1) := by decide +kernel
theorem dX12_rowMayBeSet_2 : decode cX12_rowMayBeSet 2 = .ok (.iload_n 1, 1) := by decide +kernel
theorem dX12_rowMayBeSet_3 : decode cX12_rowMayBeSet 3 = .ok (.aload_n 0, 1) := by decide +kernel
theorem dX12_rowMayBeSet_4 : decode cX12_rowMayBeSet 4 = .ok (.getfield 268, 3) := by decide +kernel
theorem dX12_rowMayBeSet_7 : decode cX12_rowMayBeSet 7 = .ok (.if_icmp .ge 59, 3) := by decide +kernel
theorem dX12_rowMayBeSet_66 : decode cX12_rowMayBeSet 66 = .ok (.iconst 1, 1) := by decide +kernel
theorem dX12_rowMayBeSet_67 : decode cX12_rowMayBeSet 67 = .ok (.ireturn, 1) := by decide +kernel
theorem dX12_lay_0 : decode cX12_lay 0 = .ok (.aload_n 1, 1) := by decide +kernel
theorem dX12_lay_1 : decode cX12_lay 1 = .ok (.aload_n 0, 1) := by decide +kernel
theorem dX12_lay_2 : decode cX12_lay 2 = .ok (.invokevirtual 455, 3) := by decide +kernel
theorem dX12_lay_5 : decode cX12_lay 5 = .ok (.newarray .int, 2) := by decide +kernel
theorem dX12_lay_7 : decode cX12_lay 7 = .ok (.putfield 458, 3) := by decide +kernel
theorem dX12_lay_10 : decode cX12_lay 10 = .ok (.aload_n 1, 1) := by decide +kernel
theorem dX12_lay_11 : decode cX12_lay 11 = .ok (.aload_n 0, 1) := by decide +kernel
theorem dX12_lay_12 : decode cX12_lay 12 = .ok (.getfield 47, 3) := by decide +kernel
theorem dX12_lay_15 : decode cX12_lay 15 = .ok (.iconst 0, 1) := by decide +kernel
theorem dX12_lay_16 : decode cX12_lay 16 = .ok (.aload_n 0, 1) := by decide +kernel
theorem dX12_lay_17 : decode cX12_lay 17 = .ok (.getfield 268, 3) := by decide +kernel
theorem dX12_lay_20 : decode cX12_lay 20 = .ok (.invokestatic 379, 3) := by decide +kernel
theorem dX12_lay_23 : decode cX12_lay 23 = .ok (.invokestatic 461, 3) := by decide +kernel
theorem dX12_lay_26 : decode cX12_lay 26 = .ok (.putfield 263, 3) := by decide +kernel
theorem dX12_lay_29 : decode cX12_lay 29 = .ok (.aload_n 1, 1) := by decide +kernel
theorem dX12_lay_30 : decode cX12_lay 30 = .ok (.aload_n 0, 1) := by decide +kernel
theorem dX12_lay_31 : decode cX12_lay 31 = .ok (.getfield 133, 3) := by decide +kernel
theorem dX12_lay_34 : decode cX12_lay 34 = .ok (.putfield 170, 3) := by decide +kernel
theorem dX12_lay_37 : decode cX12_lay 37 = .ok (.aload_n 0, 1) := by decide +kernel
theorem dX12_lay_38 : decode cX12_lay 38 = .ok (.dup, 1) := by decide +kernel
theorem dX12_lay_39 : decode cX12_lay 39 = .ok (.getfield 158, 3) := by decide +kernel
theorem dX12_lay_42 : decode cX12_lay 42 = .ok (.iconst 1, 1) := by decide +kernel
theorem dX12_lay_43 : decode cX12_lay 43 = .ok (.iload_n 2, 1) := by decide +kernel
theorem dX12_lay_44 : decode cX12_lay 44 = .ok (.ishl, 1) := by decide +kernel
theorem dX12_lay_45 : decode cX12_lay 45 = .ok (.ior, 1) := by decide +kernel
theorem dX12_lay_46 : decode cX12_lay 46 = .ok (.putfield 158, 3) := by decide +kernel
theorem dX12_lay_49 : decode cX12_lay 49 = .ok (.iconst 0, 1) := by decide +kernel
theorem dX12_lay_50 : decode cX12_lay 50 = .ok (.istore_n 3, 1) := by decide +kernel
theorem dX12_lay_51 : decode cX12_lay 51 = .ok (.iload_n 3, 1) := by decide +kernel
theorem dX12_lay_52 : decode cX12_lay 52 = .ok (.aload_n 0, 1) := by decide +kernel
theorem dX12_lay_53 : decode cX12_lay 53 = .ok (.getfield 268, 3) := by decide +kernel
theorem dX12_lay_56 : decode cX12_lay 56 = .ok (.if_icmp .ge 83, 3) := by decide +kernel
theorem dX12_lay_139 : decode cX12_lay 139 = .ok (.return_, 1) := by decide +kernel
theorem dX12_linesInRow_0 : decode cX12_linesInRow 0 = .ok (.iconst 0, 1) := by decide +kernel
theorem dX12_linesInRow_1 : decode cX12_linesInRow 1 = .ok (.istore_n 1, 1) := by decide +kernel
theorem dX12_linesInRow_2 : decode cX12_linesInRow 2 = .ok (.iconst 0, 1) := by decide +kernel
theorem dX12_linesInRow_3 : decode cX12_linesInRow 3 = .ok (.istore_n 2, 1) := by decide +kernel
theorem dX12_linesInRow_4 : decode cX12_linesInRow 4 = .ok (.iload_n 2, 1) := by decide +kernel
theorem dX12_linesInRow_5 : decode cX12_linesInRow 5 = .ok (.aload_n 0, 1) := by decide +kernel
theorem dX12_linesInRow_6 : decode cX12_linesInRow 6 = .ok (.getfield 268, 3) := by decide +kernel
theorem dX12_linesInRow_9 : decode cX12_linesInRow 9 = .ok (.if_icmp .ge 34, 3) := by decide +kernel
theorem dX12_linesInRow_43 : decode cX12_linesInRow 43 = .ok (.iload_n 1, 1) := by decide +kernel
theorem dX12_linesInRow_44 : decode cX12_linesInRow 44 = .ok (.ireturn, 1) := by decide +kernel
theorem dX12_page_0 : decode cX12_page 0 = .ok (.aload_n 0, 1) := by decide +kernel
theorem dX12_page_1 : decode cX12_page 1 = .ok (.iload_n 1, 1) := by decide +kernel
theorem dX12_page_2 : decode cX12_page 2 = .ok (.invokevirtual 189, 3) := by decide +kernel
theorem dX12_page_5 : decode cX12_page 5 = .ok (.astore_n 2, 1) := by decide +kernel
theorem dX12_page_6 : decode cX12_page 6 = .ok (.aload_n 2, 1) := by decide +kernel
theorem dX12_page_7 : decode cX12_page 7 = .ok (.ifnonnull 7, 3) := by decide +kernel
theorem dX12_page_10 : decode cX12_page 10 = .ok (.iconst (-1), 1) := by decide +kernel
theorem dX12_page_11 : decode cX12_page 11 = .ok (.goto 11, 3) := by decide +kernel
theorem dX12_page_22 : decode cX12_page 22 = .ok (.ireturn, 1) := by decide +kernel
theorem dX12_promise_0 : decode cX12_promise 0 = .ok (.aload_n 0, 1) := by decide +kernel
theorem dX12_promise_1 : decode cX12_promise 1 = .ok (.iload_n 1, 1) := by decide +kernel
theorem dX12_promise_2 : decode cX12_promise 2 = .ok (.iconst 1, 1) := by decide +kernel
theorem dX12_promise_3 : decode cX12_promise 3 = .ok (.invokevirtual 243, 3) := by decide +kernel
theorem dX12_promise_6 : decode cX12_promise 6 = .ok (.astore_n 2, 1) := by decide +kernel
theorem dX12_promise_7 : decode cX12_promise 7 = .ok (.aload_n 2, 1) := by decide +kernel
theorem dX12_promise_8 : decode cX12_promise 8 = .ok (.ifnull 11, 3) := by decide +kernel
theorem dX12_promise_19 : decode cX12_promise 19 = .ok (.iconst (-1), 1) := by decide +kernel
theorem dX12_promise_20 : decode cX12_promise 20 = .ok (.ireturn, 1) := by decide +kernel
theorem dX12_ends_0 : decode cX12_ends 0 = .ok (.aload_n 0, 1) := by decide +kernel
theorem dX12_ends_1 : decode cX12_ends 1 = .ok (.iload_n 1, 1) := by decide +kernel
theorem dX12_ends_2 : decode cX12_ends 2 = .ok (.iconst 1, 1) := by decide +kernel
theorem dX12_ends_3 : decode cX12_ends 3 = .ok (.invokevirtual 243, 3) := by decide +kernel
theorem dX12_ends_6 : decode cX12_ends 6 = .ok (.astore_n 2, 1) := by decide +kernel
theorem dX12_ends_7 : decode cX12_ends 7 = .ok (.aload_n 2, 1) := by decide +kernel
theorem dX12_ends_8 : decode cX12_ends 8 = .ok (.ifnonnull 7, 3) := by decide +kernel
theorem dX12_ends_11 : decode cX12_ends 11 = .ok (.aconst_null, 1) := by decide +kernel
theorem dX12_ends_12 : decode cX12_ends 12 = .ok (.goto 8, 3) := by decide +kernel
theorem dX12_ends_20 : decode cX12_ends 20 = .ok (.astore_n 3, 1) := by decide +kernel
theorem dX12_ends_21 : decode cX12_ends 21 = .ok (.aload_n 3, 1) := by decide +kernel
theorem dX12_ends_22 : decode cX12_ends 22 = .ok (.ifnonnull 7, 3) := by decide +kernel
theorem dX12_ends_25 : decode cX12_ends 25 = .ok (.iconst (-1), 1) := by decide +kernel
theorem dX12_ends_26 : decode cX12_ends 26 = .ok (.goto 7, 3) := by decide +kernel
theorem dX12_ends_33 : decode cX12_ends 33 = .ok (.ireturn, 1) := by decide +kernel
theorem dX12_promised_0 : decode cX12_promised 0 = .ok (.aload_n 0, 1) := by decide +kernel
theorem dX12_promised_1 : decode cX12_promised 1 = .ok (.iload_n 1, 1) := by decide +kernel
theorem dX12_promised_2 : decode cX12_promised 2 = .ok (.invokevirtual 296, 3) := by decide +kernel
theorem dX12_promised_5 : decode cX12_promised 5 = .ok (.ifnonnull 5, 3) := by decide +kernel
theorem dX12_promised_8 : decode cX12_promised 8 = .ok (.iconst (-1), 1) := by decide +kernel
theorem dX12_promised_9 : decode cX12_promised 9 = .ok (.ireturn, 1) := by decide +kernel
theorem dX12_subscribe_0 : decode cX12_subscribe 0 = .ok (.aload_n 0, 1) := by decide +kernel
theorem dX12_subscribe_1 : decode cX12_subscribe 1 = .ok (.iload_n 1, 1) := by decide +kernel
theorem dX12_subscribe_2 : decode cX12_subscribe 2 = .ok (.invokevirtual 491, 3) := by decide +kernel
theorem dX12_subscribe_5 : decode cX12_subscribe 5 = .ok (.ifCond .eq 33, 3) := by decide +kernel
theorem dX12_subscribe_8 : decode cX12_subscribe 8 = .ok (.aload_n 0, 1) := by decide +kernel
theorem dX12_subscribe_9 : decode cX12_subscribe 9 = .ok (.iload_n 2, 1) := by decide +kernel
theorem dX12_subscribe_10 : decode cX12_subscribe 10 = .ok (.invokevirtual 126, 3) := by decide +kernel
theorem dX12_subscribe_13 : decode cX12_subscribe 13 = .ok (.ifCond .eq 25, 3) := by decide +kernel
theorem dX12_subscribe_16 : decode cX12_subscribe 16 = .ok (.iload_n 3, 1) := by decide +kernel
theorem dX12_subscribe_17 : decode cX12_subscribe 17 = .ok (.iconst 1, 1) := by decide +kernel
theorem dX12_subscribe_18 : decode cX12_subscribe 18 = .ok (.if_icmp .lt 20, 3) := by decide +kernel
theorem dX12_subscribe_21 : decode cX12_subscribe 21 = .ok (.iload_n 3, 1) := by decide +kernel
theorem dX12_subscribe_22 : decode cX12_subscribe 22 = .ok (.sipush 999, 3) := by decide +kernel
theorem dX12_subscribe_25 : decode cX12_subscribe 25 = .ok (.if_icmp .gt 13, 3) := by decide +kernel
theorem dX12_subscribe_28 : decode cX12_subscribe 28 = .ok (.aload_n 0, 1) := by decide +kernel
theorem dX12_subscribe_29 : decode cX12_subscribe 29 = .ok (.getfield 70, 3) := by decide +kernel
theorem dX12_subscribe_32 : decode cX12_subscribe 32 = .ok (.iload_n 1, 1) := by decide +kernel
theorem dX12_subscribe_33 : decode cX12_subscribe 33 = .ok (.iaload, 1) := by decide +kernel
theorem dX12_subscribe_34 : decode cX12_subscribe 34 = .ok (.iconst (-1), 1) := by decide +kernel
theorem dX12_subscribe_35 : decode cX12_subscribe 35 = .ok (.if_icmp .eq 5, 3) := by decide +kernel
theorem dX12_subscribe_38 : decode cX12_subscribe 38 = .ok (.iconst 0, 1) := by decide +kernel
theorem dX12_subscribe_39 : decode cX12_subscribe 39 = .ok (.ireturn, 1) := by decide +kernel
theorem dX12_subscribe_40 : decode cX12_subscribe 40 = .ok (.aload_n 0, 1) := by decide +kernel
theorem dX12_subscribe_41 : decode cX12_subscribe 41 = .ok (.getfield 70, 3) := by decide +kernel
theorem dX12_subscribe_44 : decode cX12_subscribe 44 = .ok (.iload_n 1, 1) := by decide +kernel
theorem dX12_subscribe_45 : decode cX12_subscribe 45 = .ok (.iload_n 2, 1) := by decide +kernel
theorem dX12_subscribe_46 : decode cX12_subscribe 46 = .ok (.iastore, 1) := by decide +kernel
theorem dX12_subscribe_47 : decode cX12_subscribe 47 = .ok (.aload_n 0, 1) := by decide +kernel
theorem dX12_subscribe_48 : decode cX12_subscribe 48 = .ok (.getfield 73, 3) := by decide +kernel
theorem dX12_subscribe_51 : decode cX12_subscribe 51 = .ok (.iload_n 1, 1) := by decide +kernel
theorem dX12_subscribe_52 : decode cX12_subscribe 52 = .ok (.iload_n 3, 1) := by decide +kernel
theorem dX12_subscribe_53 : decode cX12_subscribe 53 = .ok (.iastore, 1) := by decide +kernel
theorem dX12_subscribe_54 : decode cX12_subscribe 54 = .ok (.iconst 1, 1) := by decide +kernel
theorem dX12_subscribe_55 : decode cX12_subscribe 55 = .ok (.ireturn, 1) := by decide +kernel
theorem dX12_isSubscriber_0 : decode cX12_isSubscriber 0 = .ok (.iload_n 1, 1) := by decide +kernel
theorem dX12_isSubscriber_1 : decode cX12_isSubscriber 1 = .ok (.ifCond .lt 13, 3) := by decide +kernel
theorem dX12_isSubscriber_4 : decode cX12_isSubscriber 4 = .ok (.iload_n 1, 1) := by decide +kernel
theorem dX12_isSubscriber_5 : decode cX12_isSubscriber 5 = .ok (.bipush 10, 2) := by decide +kernel
theorem dX12_isSubscriber_7 : decode cX12_isSubscriber 7 = .ok (.if_icmp .ge 7, 3) := by decide +kernel
theorem dX12_isSubscriber_10 : decode cX12_isSubscriber 10 = .ok (.iconst 1, 1) := by decide +kernel
theorem dX12_isSubscriber_11 : decode cX12_isSubscriber 11 = .ok (.goto 4, 3) := by decide +kernel
theorem dX12_isSubscriber_14 : decode cX12_isSubscriber 14 = .ok (.iconst 0, 1) := by decide +kernel
theorem dX12_isSubscriber_15 : decode cX12_isSubscriber 15 = .ok (.ireturn, 1) := by decide +kernel
theorem dX12_owed_0 : decode cX12_owed 0 = .ok (.aload_n 0, 1) := by decide +kernel
theorem dX12_owed_1 : decode cX12_owed 1 = .ok (.iload_n 2, 1) := by decide +kernel
theorem dX12_owed_2 : decode cX12_owed 2 = .ok (.invokevirtual 494, 3) := by decide +kernel
theorem dX12_owed_5 : decode cX12_owed 5 = .ok (.astore_n 3, 1) := by decide +kernel
theorem dX12_owed_6 : decode cX12_owed 6 = .ok (.aload_n 3, 1) := by decide +kernel
theorem dX12_owed_7 : decode cX12_owed 7 = .ok (.ifnull 31, 3) := by decide +kernel
theorem dX12_owed_38 : decode cX12_owed 38 = .ok (.iconst (-1), 1) := by decide +kernel
theorem dX12_owed_39 : decode cX12_owed 39 = .ok (.ireturn, 1) := by decide +kernel
theorem dX12_lengths_0 : decode cX12_lengths 0 = .ok (.aload_n 0, 1) := by decide +kernel
theorem dX12_lengths_1 : decode cX12_lengths 1 = .ok (.iload_n 1, 1) := by decide +kernel
theorem dX12_lengths_2 : decode cX12_lengths 2 = .ok (.iload_n 2, 1) := by decide +kernel
theorem dX12_lengths_3 : decode cX12_lengths 3 = .ok (.invokevirtual 500, 3) := by decide +kernel
theorem dX12_lengths_6 : decode cX12_lengths 6 = .ok (.ifCond .eq 13, 3) := by decide +kernel
theorem dX12_lengths_9 : decode cX12_lengths 9 = .ok (.aload_n 0, 1) := by decide +kernel
theorem dX12_lengths_10 : decode cX12_lengths 10 = .ok (.getfield 85, 3) := by decide +kernel
theorem dX12_lengths_13 : decode cX12_lengths 13 = .ok (.invokevirtual 503, 3) := by decide +kernel
theorem dX12_lengths_16 : decode cX12_lengths 16 = .ok (.goto 4, 3) := by decide +kernel
theorem dX12_lengths_19 : decode cX12_lengths 19 = .ok (.iconst (-1), 1) := by decide +kernel
theorem dX12_lengths_20 : decode cX12_lengths 20 = .ok (.ireturn, 1) := by decide +kernel
theorem dX12_length_0 : decode cX12_length 0 = .ok (.aload_n 0, 1) := by decide +kernel
theorem dX12_length_1 : decode cX12_length 1 = .ok (.iload_n 1, 1) := by decide +kernel
theorem dX12_length_2 : decode cX12_length 2 = .ok (.iconst 0, 1) := by decide +kernel
theorem dX12_length_3 : decode cX12_length 3 = .ok (.invokevirtual 243, 3) := by decide +kernel
theorem dX12_length_6 : decode cX12_length 6 = .ok (.astore_n 3, 1) := by decide +kernel
theorem dX12_length_7 : decode cX12_length 7 = .ok (.aload_n 3, 1) := by decide +kernel
theorem dX12_length_8 : decode cX12_length 8 = .ok (.ifnull 24, 3) := by decide +kernel
theorem dX12_length_32 : decode cX12_length 32 = .ok (.iconst (-1), 1) := by decide +kernel
theorem dX12_length_33 : decode cX12_length 33 = .ok (.ireturn, 1) := by decide +kernel
theorem dX12_fit_0 : decode cX12_fit 0 = .ok (.aload_n 0, 1) := by decide +kernel
theorem dX12_fit_1 : decode cX12_fit 1 = .ok (.iload_n 1, 1) := by decide +kernel
theorem dX12_fit_2 : decode cX12_fit 2 = .ok (.invokevirtual 126, 3) := by decide +kernel
theorem dX12_fit_5 : decode cX12_fit 5 = .ok (.ifCond .eq 23, 3) := by decide +kernel
theorem dX12_fit_8 : decode cX12_fit 8 = .ok (.aload_n 0, 1) := by decide +kernel
theorem dX12_fit_9 : decode cX12_fit 9 = .ok (.iload_n 1, 1) := by decide +kernel
theorem dX12_fit_10 : decode cX12_fit 10 = .ok (.invokevirtual 130, 3) := by decide +kernel
theorem dX12_fit_13 : decode cX12_fit 13 = .ok (.ifCond .ne 15, 3) := by decide +kernel
theorem dX12_fit_16 : decode cX12_fit 16 = .ok (.iload_n 2, 1) := by decide +kernel
theorem dX12_fit_17 : decode cX12_fit 17 = .ok (.iconst 1, 1) := by decide +kernel
theorem dX12_fit_18 : decode cX12_fit 18 = .ok (.if_icmp .lt 10, 3) := by decide +kernel
theorem dX12_fit_21 : decode cX12_fit 21 = .ok (.iload_n 2, 1) := by decide +kernel
theorem dX12_fit_22 : decode cX12_fit 22 = .ok (.sipush 400, 3) := by decide +kernel
theorem dX12_fit_25 : decode cX12_fit 25 = .ok (.if_icmp .le 5, 3) := by decide +kernel
theorem dX12_fit_28 : decode cX12_fit 28 = .ok (.iconst 0, 1) := by decide +kernel
theorem dX12_fit_29 : decode cX12_fit 29 = .ok (.ireturn, 1) := by decide +kernel
theorem dX12_fit_30 : decode cX12_fit 30 = .ok (.aload_n 0, 1) := by decide +kernel
theorem dX12_fit_31 : decode cX12_fit 31 = .ok (.iload_n 1, 1) := by decide +kernel
theorem dX12_fit_32 : decode cX12_fit 32 = .ok (.invokevirtual 265, 3) := by decide +kernel
theorem dX12_fit_35 : decode cX12_fit 35 = .ok (.aload_n 0, 1) := by decide +kernel
theorem dX12_fit_36 : decode cX12_fit 36 = .ok (.getfield 85, 3) := by decide +kernel
theorem dX12_fit_39 : decode cX12_fit 39 = .ok (.invokevirtual 509, 3) := by decide +kernel
theorem dX12_fit_42 : decode cX12_fit 42 = .ok (.iconst 0, 1) := by decide +kernel
theorem dX12_fit_43 : decode cX12_fit 43 = .ok (.istore_n 3, 1) := by decide +kernel
theorem dX12_fit_44 : decode cX12_fit 44 = .ok (.iload_n 3, 1) := by decide +kernel
theorem dX12_fit_45 : decode cX12_fit 45 = .ok (.aload_n 0, 1) := by decide +kernel
theorem dX12_fit_46 : decode cX12_fit 46 = .ok (.getfield 268, 3) := by decide +kernel
theorem dX12_fit_49 : decode cX12_fit 49 = .ok (.if_icmp .ge 36, 3) := by decide +kernel
theorem dX12_fit_85 : decode cX12_fit 85 = .ok (.aload_n 0, 1) := by decide +kernel
theorem dX12_fit_86 : decode cX12_fit 86 = .ok (.getfield 85, 3) := by decide +kernel
theorem dX12_fit_89 : decode cX12_fit 89 = .ok (.iload_n 2, 1) := by decide +kernel
theorem dX12_fit_90 : decode cX12_fit 90 = .ok (.invokevirtual 515, 3) := by decide +kernel
theorem dX12_fit_93 : decode cX12_fit 93 = .ok (.ireturn, 1) := by decide +kernel
theorem dX12_giving_0 : decode cX12_giving 0 = .ok (.aload_n 0, 1) := by decide +kernel
theorem dX12_giving_1 : decode cX12_giving 1 = .ok (.iload_n 1, 1) := by decide +kernel
theorem dX12_giving_2 : decode cX12_giving 2 = .ok (.iload_n 2, 1) := by decide +kernel
theorem dX12_giving_3 : decode cX12_giving 3 = .ok (.iload_n 3, 1) := by decide +kernel
theorem dX12_giving_4 : decode cX12_giving 4 = .ok (.invokevirtual 528, 3) := by decide +kernel
theorem dX12_giving_7 : decode cX12_giving 7 = .ok (.ifCond .eq 30, 3) := by decide +kernel
theorem dX12_giving_10 : decode cX12_giving 10 = .ok (.aload_n 0, 1) := by decide +kernel
theorem dX12_giving_11 : decode cX12_giving 11 = .ok (.iload_n 2, 1) := by decide +kernel
theorem dX12_giving_12 : decode cX12_giving 12 = .ok (.iload_n 3, 1) := by decide +kernel
theorem dX12_giving_13 : decode cX12_giving 13 = .ok (.invokevirtual 532, 3) := by decide +kernel
theorem dX12_giving_16 : decode cX12_giving 16 = .ok (.ifCond .eq 21, 3) := by decide +kernel
theorem dX12_giving_37 : decode cX12_giving 37 = .ok (.iconst (-1), 1) := by decide +kernel
theorem dX12_giving_38 : decode cX12_giving 38 = .ok (.ireturn, 1) := by decide +kernel
theorem dX12_given_0 : decode cX12_given 0 = .ok (.aload_n 0, 1) := by decide +kernel
theorem dX12_given_1 : decode cX12_given 1 = .ok (.iload_n 1, 1) := by decide +kernel
theorem dX12_given_2 : decode cX12_given 2 = .ok (.iload_n 2, 1) := by decide +kernel
theorem dX12_given_3 : decode cX12_given 3 = .ok (.iload_n 3, 1) := by decide +kernel
theorem dX12_given_4 : decode cX12_given 4 = .ok (.invokevirtual 528, 3) := by decide +kernel
theorem dX12_given_7 : decode cX12_given 7 = .ok (.ifCond .eq 24, 3) := by decide +kernel
theorem dX12_given_10 : decode cX12_given 10 = .ok (.aload_n 0, 1) := by decide +kernel
theorem dX12_given_11 : decode cX12_given 11 = .ok (.iload_n 2, 1) := by decide +kernel
theorem dX12_given_12 : decode cX12_given 12 = .ok (.iload_n 3, 1) := by decide +kernel
theorem dX12_given_13 : decode cX12_given 13 = .ok (.invokevirtual 532, 3) := by decide +kernel
theorem dX12_given_16 : decode cX12_given 16 = .ok (.ifCond .eq 15, 3) := by decide +kernel
theorem dX12_given_31 : decode cX12_given 31 = .ok (.iconst 0, 1) := by decide +kernel
theorem dX12_given_32 : decode cX12_given 32 = .ok (.istore 5, 2) := by decide +kernel
theorem dX12_given_34 : decode cX12_given 34 = .ok (.iload 5, 2) := by decide +kernel
theorem dX12_given_36 : decode cX12_given 36 = .ok (.ifCond .eq 25, 3) := by decide +kernel
theorem dX12_given_61 : decode cX12_given 61 = .ok (.iconst (-1), 1) := by decide +kernel
theorem dX12_given_62 : decode cX12_given 62 = .ok (.ireturn, 1) := by decide +kernel
theorem dX12_canGive_0 : decode cX12_canGive 0 = .ok (.iload_n 1, 1) := by decide +kernel
theorem dX12_canGive_1 : decode cX12_canGive 1 = .ok (.ifCond .le 25, 3) := by decide +kernel
theorem dX12_canGive_4 : decode cX12_canGive 4 = .ok (.iload_n 1, 1) := by decide +kernel
theorem dX12_canGive_5 : decode cX12_canGive 5 = .ok (.ldc_w 544, 3) := by decide +kernel
theorem dX12_canGive_8 : decode cX12_canGive 8 = .ok (.if_icmp .ge 18, 3) := by decide +kernel
theorem dX12_canGive_11 : decode cX12_canGive 11 = .ok (.iload_n 2, 1) := by decide +kernel
theorem dX12_canGive_12 : decode cX12_canGive 12 = .ok (.ifCond .le 14, 3) := by decide +kernel
theorem dX12_canGive_15 : decode cX12_canGive 15 = .ok (.iload_n 2, 1) := by decide +kernel
theorem dX12_canGive_16 : decode cX12_canGive 16 = .ok (.sipush 4096, 3) := by decide +kernel
theorem dX12_canGive_19 : decode cX12_canGive 19 = .ok (.if_icmp .ge 7, 3) := by decide +kernel
theorem dX12_canGive_22 : decode cX12_canGive 22 = .ok (.iconst 1, 1) := by decide +kernel
theorem dX12_canGive_23 : decode cX12_canGive 23 = .ok (.goto 4, 3) := by decide +kernel
theorem dX12_canGive_26 : decode cX12_canGive 26 = .ok (.iconst 0, 1) := by decide +kernel
theorem dX12_canGive_27 : decode cX12_canGive 27 = .ok (.istore 4, 2) := by decide +kernel
theorem dX12_canGive_29 : decode cX12_canGive 29 = .ok (.iload_n 1, 1) := by decide +kernel
theorem dX12_canGive_30 : decode cX12_canGive 30 = .ok (.invokestatic 545, 3) := by decide +kernel
theorem dX12_canGive_33 : decode cX12_canGive 33 = .ok (.bipush 7, 2) := by decide +kernel
theorem dX12_canGive_35 : decode cX12_canGive 35 = .ok (.if_icmp .gt 16, 3) := by decide +kernel
theorem dX12_canGive_38 : decode cX12_canGive 38 = .ok (.iload_n 2, 1) := by decide +kernel
theorem dX12_canGive_39 : decode cX12_canGive 39 = .ok (.invokestatic 545, 3) := by decide +kernel
theorem dX12_canGive_42 : decode cX12_canGive 42 = .ok (.bipush 6, 2) := by decide +kernel
theorem dX12_canGive_44 : decode cX12_canGive 44 = .ok (.if_icmp .gt 7, 3) := by decide +kernel
theorem dX12_canGive_47 : decode cX12_canGive 47 = .ok (.iconst 1, 1) := by decide +kernel
theorem dX12_canGive_48 : decode cX12_canGive 48 = .ok (.goto 4, 3) := by decide +kernel
theorem dX12_canGive_51 : decode cX12_canGive 51 = .ok (.iconst 0, 1) := by decide +kernel
theorem dX12_canGive_52 : decode cX12_canGive 52 = .ok (.istore 5, 2) := by decide +kernel
theorem dX12_canGive_54 : decode cX12_canGive 54 = .ok (.iload 4, 2) := by decide +kernel
theorem dX12_canGive_56 : decode cX12_canGive 56 = .ok (.ifCond .eq 24, 3) := by decide +kernel
theorem dX12_canGive_59 : decode cX12_canGive 59 = .ok (.iload 5, 2) := by decide +kernel
theorem dX12_canGive_61 : decode cX12_canGive 61 = .ok (.ifCond .eq 19, 3) := by decide +kernel
theorem dX12_canGive_64 : decode cX12_canGive 64 = .ok (.iload_n 3, 1) := by decide +kernel
theorem dX12_canGive_65 : decode cX12_canGive 65 = .ok (.iconst 1, 1) := by decide +kernel
theorem dX12_canGive_66 : decode cX12_canGive 66 = .ok (.if_icmp .lt 14, 3) := by decide +kernel
theorem dX12_canGive_69 : decode cX12_canGive 69 = .ok (.iload_n 3, 1) := by decide +kernel
theorem dX12_canGive_70 : decode cX12_canGive 70 = .ok (.sipush 400, 3) := by decide +kernel
theorem dX12_canGive_73 : decode cX12_canGive 73 = .ok (.if_icmp .gt 7, 3) := by decide +kernel
theorem dX12_canGive_76 : decode cX12_canGive 76 = .ok (.iconst 1, 1) := by decide +kernel
theorem dX12_canGive_77 : decode cX12_canGive 77 = .ok (.goto 4, 3) := by decide +kernel
theorem dX12_canGive_80 : decode cX12_canGive 80 = .ok (.iconst 0, 1) := by decide +kernel
theorem dX12_canGive_81 : decode cX12_canGive 81 = .ok (.ireturn, 1) := by decide +kernel
theorem dX12_addHands_0 : decode cX12_addHands 0 = .ok (.aload_n 0, 1) := by decide +kernel
theorem dX12_addHands_1 : decode cX12_addHands 1 = .ok (.getfield 92, 3) := by decide +kernel
theorem dX12_addHands_4 : decode cX12_addHands 4 = .ok (.invokevirtual 549, 3) := by decide +kernel
theorem dX12_addHands_7 : decode cX12_addHands 7 = .ok (.iconst 0, 1) := by decide +kernel
theorem dX12_addHands_8 : decode cX12_addHands 8 = .ok (.istore_n 3, 1) := by decide +kernel
theorem dX12_addHands_9 : decode cX12_addHands 9 = .ok (.iload_n 3, 1) := by decide +kernel
theorem dX12_addHands_10 : decode cX12_addHands 10 = .ok (.bipush 12, 2) := by decide +kernel
theorem dX12_addHands_12 : decode cX12_addHands 12 = .ok (.if_icmp .ge 49, 3) := by decide +kernel
theorem dX12_addHands_15 : decode cX12_addHands 15 = .ok (.iload_n 1, 1) := by decide +kernel
theorem dX12_addHands_16 : decode cX12_addHands 16 = .ok (.iload_n 3, 1) := by decide +kernel
theorem dX12_addHands_17 : decode cX12_addHands 17 = .ok (.ishr, 1) := by decide +kernel
theorem dX12_addHands_18 : decode cX12_addHands 18 = .ok (.iconst 1, 1) := by decide +kernel
theorem dX12_addHands_19 : decode cX12_addHands 19 = .ok (.iand, 1) := by decide +kernel
theorem dX12_addHands_20 : decode cX12_addHands 20 = .ok (.ifCond .ne 6, 3) := by decide +kernel
theorem dX12_addHands_23 : decode cX12_addHands 23 = .ok (.goto 32, 3) := by decide +kernel
theorem dX12_addHands_26 : decode cX12_addHands 26 = .ok (.aload_n 0, 1) := by decide +kernel
theorem dX12_addHands_27 : decode cX12_addHands 27 = .ok (.iload_n 3, 1) := by decide +kernel
theorem dX12_addHands_28 : decode cX12_addHands 28 = .ok (.invokevirtual 316, 3) := by decide +kernel
theorem dX12_addHands_31 : decode cX12_addHands 31 = .ok (.astore 4, 2) := by decide +kernel
theorem dX12_addHands_33 : decode cX12_addHands 33 = .ok (.aload 4, 2) := by decide +kernel
theorem dX12_addHands_35 : decode cX12_addHands 35 = .ok (.ifnonnull 5, 3) := by decide +kernel
theorem dX12_addHands_38 : decode cX12_addHands 38 = .ok (.iconst 0, 1) := by decide +kernel
theorem dX12_addHands_39 : decode cX12_addHands 39 = .ok (.ireturn, 1) := by decide +kernel
theorem dX12_addHands_55 : decode cX12_addHands 55 = .ok (.iinc 3 1, 3) := by decide +kernel
theorem dX12_addHands_58 : decode cX12_addHands 58 = .ok (.goto (-49), 3) := by decide +kernel
theorem dX12_index_0 : decode cX12_index 0 = .ok (.aload_n 0, 1) := by decide +kernel
theorem dX12_index_1 : decode cX12_index 1 = .ok (.iload_n 2, 1) := by decide +kernel
theorem dX12_index_2 : decode cX12_index 2 = .ok (.invokevirtual 494, 3) := by decide +kernel
theorem dX12_index_5 : decode cX12_index 5 = .ok (.astore 4, 2) := by decide +kernel
theorem dX12_index_7 : decode cX12_index 7 = .ok (.aload 4, 2) := by decide +kernel
theorem dX12_index_9 : decode cX12_index 9 = .ok (.ifnull 7, 3) := by decide +kernel
theorem dX12_index_16 : decode cX12_index 16 = .ok (.iconst (-1), 1) := by decide +kernel
theorem dX12_index_17 : decode cX12_index 17 = .ok (.ireturn, 1) := by decide +kernel
theorem dX12_steal_0 : decode cX12_steal 0 = .ok (.iload_n 1, 1) := by decide +kernel
theorem dX12_steal_1 : decode cX12_steal 1 = .ok (.ifCond .lt 10, 3) := by decide +kernel
theorem dX12_steal_4 : decode cX12_steal 4 = .ok (.iload_n 1, 1) := by decide +kernel
theorem dX12_steal_5 : decode cX12_steal 5 = .ok (.sipush 999, 3) := by decide +kernel
theorem dX12_steal_8 : decode cX12_steal 8 = .ok (.if_icmp .le 7, 3) := by decide +kernel
theorem dX12_steal_11 : decode cX12_steal 11 = .ok (.iconst (-1), 1) := by decide +kernel
theorem dX12_steal_12 : decode cX12_steal 12 = .ok (.goto 11, 3) := by decide +kernel
theorem dX12_steal_15 : decode cX12_steal 15 = .ok (.aload_n 0, 1) := by decide +kernel
theorem dX12_steal_16 : decode cX12_steal 16 = .ok (.getfield 99, 3) := by decide +kernel
theorem dX12_steal_19 : decode cX12_steal 19 = .ok (.iload_n 1, 1) := by decide +kernel
theorem dX12_steal_20 : decode cX12_steal 20 = .ok (.invokevirtual 572, 3) := by decide +kernel
theorem dX12_steal_23 : decode cX12_steal 23 = .ok (.ireturn, 1) := by decide +kernel
theorem dX12_forget_0 : decode cX12_forget 0 = .ok (.aload_n 0, 1) := by decide +kernel
theorem dX12_forget_1 : decode cX12_forget 1 = .ok (.getfield 99, 3) := by decide +kernel
theorem dX12_forget_4 : decode cX12_forget 4 = .ok (.getfield 574, 3) := by decide +kernel
theorem dX12_forget_7 : decode cX12_forget 7 = .ok (.istore_n 1, 1) := by decide +kernel
theorem dX12_forget_8 : decode cX12_forget 8 = .ok (.aload_n 0, 1) := by decide +kernel
theorem dX12_forget_9 : decode cX12_forget 9 = .ok (.getfield 99, 3) := by decide +kernel
theorem dX12_forget_12 : decode cX12_forget 12 = .ok (.iconst 0, 1) := by decide +kernel
theorem dX12_forget_13 : decode cX12_forget 13 = .ok (.putfield 574, 3) := by decide +kernel
theorem dX12_forget_16 : decode cX12_forget 16 = .ok (.iload_n 1, 1) := by decide +kernel
theorem dX12_forget_17 : decode cX12_forget 17 = .ok (.ireturn, 1) := by decide +kernel
theorem dX12_thief_0 : decode cX12_thief 0 = .ok (.aload_n 0, 1) := by decide +kernel
theorem dX12_thief_1 : decode cX12_thief 1 = .ok (.iload_n 1, 1) := by decide +kernel
theorem dX12_thief_2 : decode cX12_thief 2 = .ok (.invokevirtual 494, 3) := by decide +kernel
theorem dX12_thief_5 : decode cX12_thief 5 = .ok (.astore_n 3, 1) := by decide +kernel
theorem dX12_thief_6 : decode cX12_thief 6 = .ok (.aload_n 3, 1) := by decide +kernel
theorem dX12_thief_7 : decode cX12_thief 7 = .ok (.ifnull 12, 3) := by decide +kernel
theorem dX12_thief_19 : decode cX12_thief 19 = .ok (.iconst (-1), 1) := by decide +kernel
theorem dX12_thief_20 : decode cX12_thief 20 = .ok (.ireturn, 1) := by decide +kernel
theorem dX12_is_0 : decode cX12_is 0 = .ok (.aload_n 0, 1) := by decide +kernel
theorem dX12_is_1 : decode cX12_is 1 = .ok (.iload_n 1, 1) := by decide +kernel
theorem dX12_is_2 : decode cX12_is 2 = .ok (.invokevirtual 189, 3) := by decide +kernel
theorem dX12_is_5 : decode cX12_is 5 = .ok (.astore_n 3, 1) := by decide +kernel
theorem dX12_is_6 : decode cX12_is 6 = .ok (.aload_n 3, 1) := by decide +kernel
theorem dX12_is_7 : decode cX12_is 7 = .ok (.ifnonnull 5, 3) := by decide +kernel
theorem dX12_is_10 : decode cX12_is 10 = .ok (.iconst (-1), 1) := by decide +kernel
theorem dX12_is_11 : decode cX12_is 11 = .ok (.ireturn, 1) := by decide +kernel
theorem dX12_count_0 : decode cX12_count 0 = .ok (.iload_n 1, 1) := by decide +kernel
theorem dX12_count_1 : decode cX12_count 1 = .ok (.tableswitch 105 0 8 #[51, 56, 61, 66, 71, 79, 87, 92, 100], 51) := by decide +kernel
theorem dX12_count_52 : decode cX12_count 52 = .ok (.aload_n 0, 1) := by decide +kernel
theorem dX12_count_53 : decode cX12_count 53 = .ok (.getfield 133, 3) := by decide +kernel
theorem dX12_count_56 : decode cX12_count 56 = .ok (.ireturn, 1) := by decide +kernel
theorem dX12_count_57 : decode cX12_count 57 = .ok (.aload_n 0, 1) := by decide +kernel
theorem dX12_count_58 : decode cX12_count 58 = .ok (.getfield 203, 3) := by decide +kernel
theorem dX12_count_61 : decode cX12_count 61 = .ok (.ireturn, 1) := by decide +kernel
theorem dX12_count_62 : decode cX12_count 62 = .ok (.aload_n 0, 1) := by decide +kernel
theorem dX12_count_63 : decode cX12_count 63 = .ok (.getfield 292, 3) := by decide +kernel
theorem dX12_count_66 : decode cX12_count 66 = .ok (.ireturn, 1) := by decide +kernel
theorem dX12_count_67 : decode cX12_count 67 = .ok (.aload_n 0, 1) := by decide +kernel
theorem dX12_count_68 : decode cX12_count 68 = .ok (.getfield 370, 3) := by decide +kernel
theorem dX12_count_71 : decode cX12_count 71 = .ok (.ireturn, 1) := by decide +kernel
theorem dX12_count_72 : decode cX12_count 72 = .ok (.aload_n 0, 1) := by decide +kernel
theorem dX12_count_73 : decode cX12_count 73 = .ok (.getfield 19, 3) := by decide +kernel
theorem dX12_count_76 : decode cX12_count 76 = .ok (.getfield 590, 3) := by decide +kernel
theorem dX12_count_79 : decode cX12_count 79 = .ok (.ireturn, 1) := by decide +kernel
theorem dX12_count_80 : decode cX12_count 80 = .ok (.aload_n 0, 1) := by decide +kernel
theorem dX12_count_81 : decode cX12_count 81 = .ok (.getfield 66, 3) := by decide +kernel
theorem dX12_count_84 : decode cX12_count 84 = .ok (.getfield 593, 3) := by decide +kernel
theorem dX12_count_87 : decode cX12_count 87 = .ok (.ireturn, 1) := by decide +kernel
theorem dX12_count_88 : decode cX12_count 88 = .ok (.aload_n 0, 1) := by decide +kernel
theorem dX12_count_89 : decode cX12_count 89 = .ok (.getfield 158, 3) := by decide +kernel
theorem dX12_count_92 : decode cX12_count 92 = .ok (.ireturn, 1) := by decide +kernel
theorem dX12_count_93 : decode cX12_count 93 = .ok (.aload_n 0, 1) := by decide +kernel
theorem dX12_count_94 : decode cX12_count 94 = .ok (.getfield 10, 3) := by decide +kernel
theorem dX12_count_97 : decode cX12_count 97 = .ok (.getfield 103, 3) := by decide +kernel
theorem dX12_count_100 : decode cX12_count 100 = .ok (.ireturn, 1) := by decide +kernel
theorem dX12_count_101 : decode cX12_count 101 = .ok (.aload_n 0, 1) := by decide +kernel
theorem dX12_count_102 : decode cX12_count 102 = .ok (.invokevirtual 596, 3) := by decide +kernel
theorem dX12_count_105 : decode cX12_count 105 = .ok (.ireturn, 1) := by decide +kernel
theorem dX12_count_106 : decode cX12_count 106 = .ok (.aload_n 0, 1) := by decide +kernel
theorem dX12_count_107 : decode cX12_count 107 = .ok (.iload_n 1, 1) := by decide +kernel
theorem dX12_count_108 : decode cX12_count 108 = .ok (.invokevirtual 599, 3) := by decide +kernel
theorem dX12_count_111 : decode cX12_count 111 = .ok (.ireturn, 1) := by decide +kernel
theorem dX12_payOfAll_0 : decode cX12_payOfAll 0 = .ok (.iconst 0, 1) := by decide +kernel
theorem dX12_payOfAll_1 : decode cX12_payOfAll 1 = .ok (.istore_n 1, 1) := by decide +kernel
theorem dX12_payOfAll_2 : decode cX12_payOfAll 2 = .ok (.iconst 0, 1) := by decide +kernel
theorem dX12_payOfAll_3 : decode cX12_payOfAll 3 = .ok (.istore_n 2, 1) := by decide +kernel
theorem dX12_payOfAll_4 : decode cX12_payOfAll 4 = .ok (.iload_n 2, 1) := by decide +kernel
theorem dX12_payOfAll_5 : decode cX12_payOfAll 5 = .ok (.aload_n 0, 1) := by decide +kernel
theorem dX12_payOfAll_6 : decode cX12_payOfAll 6 = .ok (.getfield 292, 3) := by decide +kernel
theorem dX12_payOfAll_9 : decode cX12_payOfAll 9 = .ok (.if_icmp .ge 30, 3) := by decide +kernel
theorem dX12_payOfAll_39 : decode cX12_payOfAll 39 = .ok (.iload_n 1, 1) := by decide +kernel
theorem dX12_payOfAll_40 : decode cX12_payOfAll 40 = .ok (.ireturn, 1) := by decide +kernel
theorem dX12_countOfHand_0 : decode cX12_countOfHand 0 = .ok (.iload_n 1, 1) := by decide +kernel
theorem dX12_countOfHand_1 : decode cX12_countOfHand 1 = .ok (.bipush 10, 2) := by decide +kernel
theorem dX12_countOfHand_3 : decode cX12_countOfHand 3 = .ok (.if_icmp .lt 13, 3) := by decide +kernel
theorem dX12_countOfHand_6 : decode cX12_countOfHand 6 = .ok (.iload_n 1, 1) := by decide +kernel
theorem dX12_countOfHand_7 : decode cX12_countOfHand 7 = .ok (.bipush 22, 2) := by decide +kernel
theorem dX12_countOfHand_9 : decode cX12_countOfHand 9 = .ok (.if_icmp .ge 7, 3) := by decide +kernel
theorem dX12_countOfHand_12 : decode cX12_countOfHand 12 = .ok (.iconst 1, 1) := by decide +kernel
theorem dX12_countOfHand_13 : decode cX12_countOfHand 13 = .ok (.goto 4, 3) := by decide +kernel
theorem dX12_countOfHand_16 : decode cX12_countOfHand 16 = .ok (.iconst 0, 1) := by decide +kernel
theorem dX12_countOfHand_17 : decode cX12_countOfHand 17 = .ok (.istore_n 2, 1) := by decide +kernel
theorem dX12_countOfHand_18 : decode cX12_countOfHand 18 = .ok (.iload_n 1, 1) := by decide +kernel
theorem dX12_countOfHand_19 : decode cX12_countOfHand 19 = .ok (.bipush 30, 2) := by decide +kernel
theorem dX12_countOfHand_21 : decode cX12_countOfHand 21 = .ok (.if_icmp .lt 13, 3) := by decide +kernel
theorem dX12_countOfHand_24 : decode cX12_countOfHand 24 = .ok (.iload_n 1, 1) := by decide +kernel
theorem dX12_countOfHand_25 : decode cX12_countOfHand 25 = .ok (.bipush 42, 2) := by decide +kernel
theorem dX12_countOfHand_27 : decode cX12_countOfHand 27 = .ok (.if_icmp .ge 7, 3) := by decide +kernel
theorem dX12_countOfHand_30 : decode cX12_countOfHand 30 = .ok (.iconst 1, 1) := by decide +kernel
theorem dX12_countOfHand_31 : decode cX12_countOfHand 31 = .ok (.goto 4, 3) := by decide +kernel
theorem dX12_countOfHand_34 : decode cX12_countOfHand 34 = .ok (.iconst 0, 1) := by decide +kernel
theorem dX12_countOfHand_35 : decode cX12_countOfHand 35 = .ok (.istore_n 3, 1) := by decide +kernel
theorem dX12_countOfHand_36 : decode cX12_countOfHand 36 = .ok (.iload_n 2, 1) := by decide +kernel
theorem dX12_countOfHand_37 : decode cX12_countOfHand 37 = .ok (.ifCond .ne 9, 3) := by decide +kernel
theorem dX12_countOfHand_40 : decode cX12_countOfHand 40 = .ok (.iload_n 3, 1) := by decide +kernel
theorem dX12_countOfHand_41 : decode cX12_countOfHand 41 = .ok (.ifCond .ne 5, 3) := by decide +kernel
theorem dX12_countOfHand_44 : decode cX12_countOfHand 44 = .ok (.iconst (-1), 1) := by decide +kernel
theorem dX12_countOfHand_45 : decode cX12_countOfHand 45 = .ok (.ireturn, 1) := by decide +kernel
theorem dX12_countOfHand_46 : decode cX12_countOfHand 46 = .ok (.aload_n 0, 1) := by decide +kernel
theorem dX12_countOfHand_47 : decode cX12_countOfHand 47 = .ok (.iload_n 2, 1) := by decide +kernel
theorem dX12_countOfHand_48 : decode cX12_countOfHand 48 = .ok (.ifCond .eq 10, 3) := by decide +kernel
theorem dX12_countOfHand_51 : decode cX12_countOfHand 51 = .ok (.iload_n 1, 1) := by decide +kernel
theorem dX12_countOfHand_52 : decode cX12_countOfHand 52 = .ok (.bipush 10, 2) := by decide +kernel
theorem dX12_countOfHand_54 : decode cX12_countOfHand 54 = .ok (.isub, 1) := by decide +kernel
theorem dX12_countOfHand_55 : decode cX12_countOfHand 55 = .ok (.goto 7, 3) := by decide +kernel
theorem dX12_countOfHand_58 : decode cX12_countOfHand 58 = .ok (.iload_n 1, 1) := by decide +kernel
theorem dX12_countOfHand_59 : decode cX12_countOfHand 59 = .ok (.bipush 30, 2) := by decide +kernel
theorem dX12_countOfHand_61 : decode cX12_countOfHand 61 = .ok (.isub, 1) := by decide +kernel
theorem dX12_countOfHand_62 : decode cX12_countOfHand 62 = .ok (.invokevirtual 296, 3) := by decide +kernel
theorem dX12_countOfHand_65 : decode cX12_countOfHand 65 = .ok (.astore 4, 2) := by decide +kernel
theorem dX12_countOfHand_67 : decode cX12_countOfHand 67 = .ok (.aload 4, 2) := by decide +kernel
theorem dX12_countOfHand_69 : decode cX12_countOfHand 69 = .ok (.ifnonnull 5, 3) := by decide +kernel
theorem dX12_countOfHand_72 : decode cX12_countOfHand 72 = .ok (.iconst (-1), 1) := by decide +kernel
theorem dX12_countOfHand_73 : decode cX12_countOfHand 73 = .ok (.ireturn, 1) := by decide +kernel
theorem dX13_init_0 : decode cX13_init 0 = .ok (.aload_n 0, 1) := by decide +kernel
theorem dX13_init_1 : decode cX13_init 1 = .ok (.invokespecial 1, 3) := by decide +kernel
theorem dX13_init_4 : decode cX13_init 4 = .ok (.aload_n 0, 1) := by decide +kernel
theorem dX13_init_5 : decode cX13_init 5 = .ok (.sipush 600, 3) := by decide +kernel
theorem dX13_init_8 : decode cX13_init 8 = .ok (.newarray .byte, 2) := by decide +kernel
theorem dX13_init_10 : decode cX13_init 10 = .ok (.putfield 9, 3) := by decide +kernel
theorem dX13_init_13 : decode cX13_init 13 = .ok (.aload_n 0, 1) := by decide +kernel
theorem dX13_init_14 : decode cX13_init 14 = .ok (.sipush 1200, 3) := by decide +kernel
theorem dX13_init_17 : decode cX13_init 17 = .ok (.newarray .int, 2) := by decide +kernel
theorem dX13_init_19 : decode cX13_init 19 = .ok (.putfield 13, 3) := by decide +kernel
theorem dX13_init_22 : decode cX13_init 22 = .ok (.aload_n 0, 1) := by decide +kernel
theorem dX13_init_23 : decode cX13_init 23 = .ok (.sipush 600, 3) := by decide +kernel
theorem dX13_init_26 : decode cX13_init 26 = .ok (.newarray .int, 2) := by decide +kernel
theorem dX13_init_28 : decode cX13_init 28 = .ok (.putfield 17, 3) := by decide +kernel
theorem dX13_init_31 : decode cX13_init 31 = .ok (.aload_n 0, 1) := by decide +kernel
theorem dX13_init_32 : decode cX13_init 32 = .ok (.sipush 600, 3) := by decide +kernel
theorem dX13_init_35 : decode cX13_init 35 = .ok (.newarray .int, 2) := by decide +kernel
theorem dX13_init_37 : decode cX13_init 37 = .ok (.putfield 20, 3) := by decide +kernel
theorem dX13_init_40 : decode cX13_init 40 = .ok (.aload_n 0, 1) := by decide +kernel
theorem dX13_init_41 : decode cX13_init 41 = .ok (.bipush 14, 2) := by decide +kernel
theorem dX13_init_43 : decode cX13_init 43 = .ok (.newarray .int, 2) := by decide +kernel
theorem dX13_init_45 : decode cX13_init 45 = .ok (.putfield 23, 3) := by decide +kernel
theorem dX13_init_48 : decode cX13_init 48 = .ok (.aload_n 0, 1) := by decide +kernel
theorem dX13_init_49 : decode cX13_init 49 = .ok (.bipush 14, 2) := by decide +kernel
theorem dX13_init_51 : decode cX13_init 51 = .ok (.newarray .int, 2) := by decide +kernel
theorem dX13_init_53 : decode cX13_init 53 = .ok (.putfield 26, 3) := by decide +kernel
theorem dX13_init_56 : decode cX13_init 56 = .ok (.aload_n 0, 1) := by decide +kernel
theorem dX13_init_57 : decode cX13_init 57 = .ok (.iconst 4, 1) := by decide +kernel
theorem dX13_init_58 : decode cX13_init 58 = .ok (.newarray .int, 2) := by decide +kernel
theorem dX13_init_60 : decode cX13_init 60 = .ok (.putfield 29, 3) := by decide +kernel
theorem dX13_init_63 : decode cX13_init 63 = .ok (.aload_n 0, 1) := by decide +kernel
theorem dX13_init_64 : decode cX13_init 64 = .ok (.iconst 4, 1) := by decide +kernel
theorem dX13_init_65 : decode cX13_init 65 = .ok (.newarray .int, 2) := by decide +kernel
theorem dX13_init_67 : decode cX13_init 67 = .ok (.putfield 32, 3) := by decide +kernel
theorem dX13_init_70 : decode cX13_init 70 = .ok (.aload_n 0, 1) := by decide +kernel
theorem dX13_init_71 : decode cX13_init 71 = .ok (.sipush 7200, 3) := by decide +kernel
theorem dX13_init_74 : decode cX13_init 74 = .ok (.newarray .int, 2) := by decide +kernel
theorem dX13_init_76 : decode cX13_init 76 = .ok (.putfield 35, 3) := by decide +kernel
theorem dX13_init_79 : decode cX13_init 79 = .ok (.aload_n 0, 1) := by decide +kernel
theorem dX13_init_80 : decode cX13_init 80 = .ok (.sipush 7200, 3) := by decide +kernel
theorem dX13_init_83 : decode cX13_init 83 = .ok (.newarray .int, 2) := by decide +kernel
theorem dX13_init_85 : decode cX13_init 85 = .ok (.putfield 38, 3) := by decide +kernel
theorem dX13_init_88 : decode cX13_init 88 = .ok (.aload_n 0, 1) := by decide +kernel
theorem dX13_init_89 : decode cX13_init 89 = .ok (.sipush 168, 3) := by decide +kernel
theorem dX13_init_92 : decode cX13_init 92 = .ok (.newarray .int, 2) := by decide +kernel
theorem dX13_init_94 : decode cX13_init 94 = .ok (.putfield 41, 3) := by decide +kernel
theorem dX13_init_97 : decode cX13_init 97 = .ok (.aload_n 0, 1) := by decide +kernel
theorem dX13_init_98 : decode cX13_init 98 = .ok (.sipush 168, 3) := by decide +kernel
theorem dX13_init_101 : decode cX13_init 101 = .ok (.newarray .int, 2) := by decide +kernel
theorem dX13_init_103 : decode cX13_init 103 = .ok (.putfield 44, 3) := by decide +kernel
theorem dX13_init_106 : decode cX13_init 106 = .ok (.aload_n 0, 1) := by decide +kernel
theorem dX13_init_107 : decode cX13_init 107 = .ok (.bipush 12, 2) := by decide +kernel
theorem dX13_init_109 : decode cX13_init 109 = .ok (.newarray .int, 2) := by decide +kernel
theorem dX13_init_111 : decode cX13_init 111 = .ok (.putfield 47, 3) := by decide +kernel
theorem dX13_init_114 : decode cX13_init 114 = .ok (.aload_n 0, 1) := by decide +kernel
theorem dX13_init_115 : decode cX13_init 115 = .ok (.sipush 384, 3) := by decide +kernel
theorem dX13_init_118 : decode cX13_init 118 = .ok (.newarray .byte, 2) := by decide +kernel
theorem dX13_init_120 : decode cX13_init 120 = .ok (.putfield 50, 3) := by decide +kernel
theorem dX13_init_123 : decode cX13_init 123 = .ok (.aload_n 0, 1) := by decide +kernel
theorem dX13_init_124 : decode cX13_init 124 = .ok (.bipush 48, 2) := by decide +kernel
theorem dX13_init_126 : decode cX13_init 126 = .ok (.newarray .int, 2) := by decide +kernel
theorem dX13_init_128 : decode cX13_init 128 = .ok (.putfield 53, 3) := by decide +kernel
theorem dX13_init_131 : decode cX13_init 131 = .ok (.aload_n 0, 1) := by decide +kernel
theorem dX13_init_132 : decode cX13_init 132 = .ok (.bipush 20, 2) := by decide +kernel
theorem dX13_init_134 : decode cX13_init 134 = .ok (.newarray .int, 2) := by decide +kernel
theorem dX13_init_136 : decode cX13_init 136 = .ok (.putfield 56, 3) := by decide +kernel
theorem dX13_init_139 : decode cX13_init 139 = .ok (.aload_n 0, 1) := by decide +kernel
theorem dX13_init_140 : decode cX13_init 140 = .ok (.bipush 20, 2) := by decide +kernel
theorem dX13_init_142 : decode cX13_init 142 = .ok (.newarray .int, 2) := by decide +kernel
theorem dX13_init_144 : decode cX13_init 144 = .ok (.putfield 59, 3) := by decide +kernel
theorem dX13_init_147 : decode cX13_init 147 = .ok (.aload_n 0, 1) := by decide +kernel
theorem dX13_init_148 : decode cX13_init 148 = .ok (.bipush 20, 2) := by decide +kernel
theorem dX13_init_150 : decode cX13_init 150 = .ok (.newarray .int, 2) := by decide +kernel
theorem dX13_init_152 : decode cX13_init 152 = .ok (.putfield 62, 3) := by decide +kernel
theorem dX13_init_155 : decode cX13_init 155 = .ok (.aload_n 0, 1) := by decide +kernel
theorem dX13_init_156 : decode cX13_init 156 = .ok (.iconst 5, 1) := by decide +kernel
theorem dX13_init_157 : decode cX13_init 157 = .ok (.newarray .int, 2) := by decide +kernel
theorem dX13_init_159 : decode cX13_init 159 = .ok (.dup, 1) := by decide +kernel
theorem dX13_init_160 : decode cX13_init 160 = .ok (.iconst 0, 1) := by decide +kernel
theorem dX13_init_161 : decode cX13_init 161 = .ok (.iconst 4, 1) := by decide +kernel
theorem dX13_init_162 : decode cX13_init 162 = .ok (.iastore, 1) := by decide +kernel
theorem dX13_init_163 : decode cX13_init 163 = .ok (.dup, 1) := by decide +kernel
theorem dX13_init_164 : decode cX13_init 164 = .ok (.iconst 1, 1) := by decide +kernel
theorem dX13_init_165 : decode cX13_init 165 = .ok (.bipush 9, 2) := by decide +kernel
theorem dX13_init_167 : decode cX13_init 167 = .ok (.iastore, 1) := by decide +kernel
theorem dX13_init_168 : decode cX13_init 168 = .ok (.dup, 1) := by decide +kernel
theorem dX13_init_169 : decode cX13_init 169 = .ok (.iconst 2, 1) := by decide +kernel
theorem dX13_init_170 : decode cX13_init 170 = .ok (.bipush 14, 2) := by decide +kernel
theorem dX13_init_172 : decode cX13_init 172 = .ok (.iastore, 1) := by decide +kernel
theorem dX13_init_173 : decode cX13_init 173 = .ok (.dup, 1) := by decide +kernel
theorem dX13_init_174 : decode cX13_init 174 = .ok (.iconst 3, 1) := by decide +kernel
theorem dX13_init_175 : decode cX13_init 175 = .ok (.bipush 19, 2) := by decide +kernel
theorem dX13_init_177 : decode cX13_init 177 = .ok (.iastore, 1) := by decide +kernel
theorem dX13_init_178 : decode cX13_init 178 = .ok (.dup, 1) := by decide +kernel
theorem dX13_init_179 : decode cX13_init 179 = .ok (.iconst 4, 1) := by decide +kernel
theorem dX13_init_180 : decode cX13_init 180 = .ok (.bipush 24, 2) := by decide +kernel
theorem dX13_init_182 : decode cX13_init 182 = .ok (.iastore, 1) := by decide +kernel
theorem dX13_init_183 : decode cX13_init 183 = .ok (.putfield 65, 3) := by decide +kernel
theorem dX13_init_186 : decode cX13_init 186 = .ok (.aload_n 0, 1) := by decide +kernel
theorem dX13_init_187 : decode cX13_init 187 = .ok (.bipush 6, 2) := by decide +kernel
theorem dX13_init_189 : decode cX13_init 189 = .ok (.newarray .boolean, 2) := by decide +kernel
theorem dX13_init_191 : decode cX13_init 191 = .ok (.putfield 68, 3) := by decide +kernel
theorem dX13_init_194 : decode cX13_init 194 = .ok (.aload_n 0, 1) := by decide +kernel
theorem dX13_init_195 : decode cX13_init 195 = .ok (.bipush 6, 2) := by decide +kernel
theorem dX13_init_197 : decode cX13_init 197 = .ok (.newarray .int, 2) := by decide +kernel
theorem dX13_init_199 : decode cX13_init 199 = .ok (.putfield 72, 3) := by decide +kernel
theorem dX13_init_202 : decode cX13_init 202 = .ok (.aload_n 0, 1) := by decide +kernel
theorem dX13_init_203 : decode cX13_init 203 = .ok (.bipush 6, 2) := by decide +kernel
theorem dX13_init_205 : decode cX13_init 205 = .ok (.newarray .int, 2) := by decide +kernel
theorem dX13_init_207 : decode cX13_init 207 = .ok (.putfield 75, 3) := by decide +kernel
theorem dX13_init_210 : decode cX13_init 210 = .ok (.aload_n 0, 1) := by decide +kernel
theorem dX13_init_211 : decode cX13_init 211 = .ok (.sipush 360, 3) := by decide +kernel
theorem dX13_init_214 : decode cX13_init 214 = .ok (.newarray .int, 2) := by decide +kernel
theorem dX13_init_216 : decode cX13_init 216 = .ok (.putfield 78, 3) := by decide +kernel
theorem dX13_init_219 : decode cX13_init 219 = .ok (.aload_n 0, 1) := by decide +kernel
theorem dX13_init_220 : decode cX13_init 220 = .ok (.bipush 6, 2) := by decide +kernel
theorem dX13_init_222 : decode cX13_init 222 = .ok (.newarray .int, 2) := by decide +kernel
theorem dX13_init_224 : decode cX13_init 224 = .ok (.putfield 81, 3) := by decide +kernel
theorem dX13_init_227 : decode cX13_init 227 = .ok (.aload_n 0, 1) := by decide +kernel
theorem dX13_init_228 : decode cX13_init 228 = .ok (.sipush 720, 3) := by decide +kernel
theorem dX13_init_231 : decode cX13_init 231 = .ok (.newarray .byte, 2) := by decide +kernel
theorem dX13_init_233 : decode cX13_init 233 = .ok (.putfield 84, 3) := by decide +kernel
theorem dX13_init_236 : decode cX13_init 236 = .ok (.aload_n 0, 1) := by decide +kernel
theorem dX13_init_237 : decode cX13_init 237 = .ok (.bipush 60, 2) := by decide +kernel
theorem dX13_init_239 : decode cX13_init 239 = .ok (.newarray .int, 2) := by decide +kernel
theorem dX13_init_241 : decode cX13_init 241 = .ok (.putfield 87, 3) := by decide +kernel
theorem dX13_init_244 : decode cX13_init 244 = .ok (.aload_n 0, 1) := by decide +kernel
theorem dX13_init_245 : decode cX13_init 245 = .ok (.bipush 60, 2) := by decide +kernel
theorem dX13_init_247 : decode cX13_init 247 = .ok (.newarray .int, 2) := by decide +kernel
theorem dX13_init_249 : decode cX13_init 249 = .ok (.putfield 90, 3) := by decide +kernel
theorem dX13_init_252 : decode cX13_init 252 = .ok (.aload_n 0, 1) := by decide +kernel
theorem dX13_init_253 : decode cX13_init 253 = .ok (.bipush 60, 2) := by decide +kernel
theorem dX13_init_255 : decode cX13_init 255 = .ok (.newarray .int, 2) := by decide +kernel
theorem dX13_init_257 : decode cX13_init 257 = .ok (.putfield 93, 3) := by decide +kernel
theorem dX13_init_260 : decode cX13_init 260 = .ok (.aload_n 0, 1) := by decide +kernel
theorem dX13_init_261 : decode cX13_init 261 = .ok (.bipush 60, 2) := by decide +kernel
theorem dX13_init_263 : decode cX13_init 263 = .ok (.newarray .int, 2) := by decide +kernel
theorem dX13_init_265 : decode cX13_init 265 = .ok (.putfield 96, 3) := by decide +kernel
theorem dX13_init_268 : decode cX13_init 268 = .ok (.aload_n 0, 1) := by decide +kernel
theorem dX13_init_269 : decode cX13_init 269 = .ok (.bipush 60, 2) := by decide +kernel
theorem dX13_init_271 : decode cX13_init 271 = .ok (.newarray .int, 2) := by decide +kernel
theorem dX13_init_273 : decode cX13_init 273 = .ok (.putfield 99, 3) := by decide +kernel
theorem dX13_init_276 : decode cX13_init 276 = .ok (.aload_n 0, 1) := by decide +kernel
theorem dX13_init_277 : decode cX13_init 277 = .ok (.bipush 60, 2) := by decide +kernel
theorem dX13_init_279 : decode cX13_init 279 = .ok (.newarray .int, 2) := by decide +kernel
theorem dX13_init_281 : decode cX13_init 281 = .ok (.putfield 102, 3) := by decide +kernel
theorem dX13_init_284 : decode cX13_init 284 = .ok (.aload_n 0, 1) := by decide +kernel
theorem dX13_init_285 : decode cX13_init 285 = .ok (.bipush 60, 2) := by decide +kernel
theorem dX13_init_287 : decode cX13_init 287 = .ok (.newarray .int, 2) := by decide +kernel
theorem dX13_init_289 : decode cX13_init 289 = .ok (.putfield 105, 3) := by decide +kernel
theorem dX13_init_292 : decode cX13_init 292 = .ok (.aload_n 0, 1) := by decide +kernel
theorem dX13_init_293 : decode cX13_init 293 = .ok (.bipush 60, 2) := by decide +kernel
theorem dX13_init_295 : decode cX13_init 295 = .ok (.newarray .boolean, 2) := by decide +kernel
theorem dX13_init_297 : decode cX13_init 297 = .ok (.putfield 108, 3) := by decide +kernel
theorem dX13_init_300 : decode cX13_init 300 = .ok (.aload_n 0, 1) := by decide +kernel
theorem dX13_init_301 : decode cX13_init 301 = .ok (.bipush 60, 2) := by decide +kernel
theorem dX13_init_303 : decode cX13_init 303 = .ok (.newarray .boolean, 2) := by decide +kernel
theorem dX13_init_305 : decode cX13_init 305 = .ok (.putfield 111, 3) := by decide +kernel
theorem dX13_init_308 : decode cX13_init 308 = .ok (.aload_n 0, 1) := by decide +kernel
theorem dX13_init_309 : decode cX13_init 309 = .ok (.bipush 60, 2) := by decide +kernel
theorem dX13_init_311 : decode cX13_init 311 = .ok (.newarray .int, 2) := by decide +kernel
theorem dX13_init_313 : decode cX13_init 313 = .ok (.putfield 114, 3) := by decide +kernel
theorem dX13_init_316 : decode cX13_init 316 = .ok (.aload_n 0, 1) := by decide +kernel
theorem dX13_init_317 : decode cX13_init 317 = .ok (.bipush 60, 2) := by decide +kernel
theorem dX13_init_319 : decode cX13_init 319 = .ok (.newarray .int, 2) := by decide +kernel
theorem dX13_init_321 : decode cX13_init 321 = .ok (.putfield 117, 3) := by decide +kernel
theorem dX13_init_324 : decode cX13_init 324 = .ok (.aload_n 0, 1) := by decide +kernel
theorem dX13_init_325 : decode cX13_init 325 = .ok (.bipush 12, 2) := by decide +kernel
theorem dX13_init_327 : decode cX13_init 327 = .ok (.newarray .int, 2) := by decide +kernel
theorem dX13_init_329 : decode cX13_init 329 = .ok (.putfield 120, 3) := by decide +kernel
theorem dX13_init_332 : decode cX13_init 332 = .ok (.aload_n 0, 1) := by decide +kernel
theorem dX13_init_333 : decode cX13_init 333 = .ok (.bipush 12, 2) := by decide +kernel
theorem dX13_init_335 : decode cX13_init 335 = .ok (.newarray .int, 2) := by decide +kernel
theorem dX13_init_337 : decode cX13_init 337 = .ok (.putfield 123, 3) := by decide +kernel
theorem dX13_init_340 : decode cX13_init 340 = .ok (.aload_n 0, 1) := by decide +kernel
theorem dX13_init_341 : decode cX13_init 341 = .ok (.bipush 12, 2) := by decide +kernel
theorem dX13_init_343 : decode cX13_init 343 = .ok (.newarray .int, 2) := by decide +kernel
theorem dX13_init_345 : decode cX13_init 345 = .ok (.putfield 126, 3) := by decide +kernel
theorem dX13_init_348 : decode cX13_init 348 = .ok (.aload_n 0, 1) := by decide +kernel
theorem dX13_init_349 : decode cX13_init 349 = .ok (.bipush 12, 2) := by decide +kernel
theorem dX13_init_351 : decode cX13_init 351 = .ok (.newarray .boolean, 2) := by decide +kernel
theorem dX13_init_353 : decode cX13_init 353 = .ok (.putfield 129, 3) := by decide +kernel
theorem dX13_init_356 : decode cX13_init 356 = .ok (.aload_n 0, 1) := by decide +kernel
theorem dX13_init_357 : decode cX13_init 357 = .ok (.sipush 144, 3) := by decide +kernel
theorem dX13_init_360 : decode cX13_init 360 = .ok (.newarray .boolean, 2) := by decide +kernel
theorem dX13_init_362 : decode cX13_init 362 = .ok (.putfield 132, 3) := by decide +kernel
theorem dX13_init_365 : decode cX13_init 365 = .ok (.aload_n 0, 1) := by decide +kernel
theorem dX13_init_366 : decode cX13_init 366 = .ok (.sipush 300, 3) := by decide +kernel
theorem dX13_init_369 : decode cX13_init 369 = .ok (.newarray .int, 2) := by decide +kernel
theorem dX13_init_371 : decode cX13_init 371 = .ok (.putfield 135, 3) := by decide +kernel
theorem dX13_init_374 : decode cX13_init 374 = .ok (.aload_n 0, 1) := by decide +kernel
theorem dX13_init_375 : decode cX13_init 375 = .ok (.sipush 300, 3) := by decide +kernel
theorem dX13_init_378 : decode cX13_init 378 = .ok (.newarray .int, 2) := by decide +kernel
theorem dX13_init_380 : decode cX13_init 380 = .ok (.putfield 138, 3) := by decide +kernel
theorem dX13_init_383 : decode cX13_init 383 = .ok (.aload_n 0, 1) := by decide +kernel
theorem dX13_init_384 : decode cX13_init 384 = .ok (.sipush 300, 3) := by decide +kernel
theorem dX13_init_387 : decode cX13_init 387 = .ok (.newarray .int, 2) := by decide +kernel
theorem dX13_init_389 : decode cX13_init 389 = .ok (.putfield 141, 3) := by decide +kernel
theorem dX13_init_392 : decode cX13_init 392 = .ok (.aload_n 0, 1) := by decide +kernel
theorem dX13_init_393 : decode cX13_init 393 = .ok (.sipush 300, 3) := by decide +kernel
theorem dX13_init_396 : decode cX13_init 396 = .ok (.newarray .int, 2) := by decide +kernel
theorem dX13_init_398 : decode cX13_init 398 = .ok (.putfield 144, 3) := by decide +kernel
theorem dX13_init_401 : decode cX13_init 401 = .ok (.aload_n 0, 1) := by decide +kernel
theorem dX13_init_402 : decode cX13_init 402 = .ok (.sipush 300, 3) := by decide +kernel
theorem dX13_init_405 : decode cX13_init 405 = .ok (.newarray .int, 2) := by decide +kernel
theorem dX13_init_407 : decode cX13_init 407 = .ok (.putfield 147, 3) := by decide +kernel
theorem dX13_init_410 : decode cX13_init 410 = .ok (.aload_n 0, 1) := by decide +kernel
theorem dX13_init_411 : decode cX13_init 411 = .ok (.sipush 300, 3) := by decide +kernel
theorem dX13_init_414 : decode cX13_init 414 = .ok (.newarray .int, 2) := by decide +kernel
theorem dX13_init_416 : decode cX13_init 416 = .ok (.putfield 150, 3) := by decide +kernel
theorem dX13_init_419 : decode cX13_init 419 = .ok (.aload_n 0, 1) := by decide +kernel
theorem dX13_init_420 : decode cX13_init 420 = .ok (.sipush 300, 3) := by decide +kernel
theorem dX13_init_423 : decode cX13_init 423 = .ok (.newarray .int, 2) := by decide +kernel
theorem dX13_init_425 : decode cX13_init 425 = .ok (.putfield 153, 3) := by decide +kernel
theorem dX13_init_428 : decode cX13_init 428 = .ok (.aload_n 0, 1) := by decide +kernel
theorem dX13_init_429 : decode cX13_init 429 = .ok (.sipush 300, 3) := by decide +kernel
theorem dX13_init_432 : decode cX13_init 432 = .ok (.newarray .int, 2) := by decide +kernel
theorem dX13_init_434 : decode cX13_init 434 = .ok (.putfield 156, 3) := by decide +kernel
theorem dX13_init_437 : decode cX13_init 437 = .ok (.aload_n 0, 1) := by decide +kernel
theorem dX13_init_438 : decode cX13_init 438 = .ok (.sipush 300, 3) := by decide +kernel
theorem dX13_init_441 : decode cX13_init 441 = .ok (.newarray .int, 2) := by decide +kernel
theorem dX13_init_443 : decode cX13_init 443 = .ok (.putfield 159, 3) := by decide +kernel
theorem dX13_init_446 : decode cX13_init 446 = .ok (.aload_n 0, 1) := by decide +kernel
theorem dX13_init_447 : decode cX13_init 447 = .ok (.sipush 600, 3) := by decide +kernel
theorem dX13_init_450 : decode cX13_init 450 = .ok (.newarray .int, 2) := by decide +kernel
theorem dX13_init_452 : decode cX13_init 452 = .ok (.putfield 162, 3) := by decide +kernel
theorem dX13_init_455 : decode cX13_init 455 = .ok (.aload_n 0, 1) := by decide +kernel
theorem dX13_init_456 : decode cX13_init 456 = .ok (.sipush 600, 3) := by decide +kernel
theorem dX13_init_459 : decode cX13_init 459 = .ok (.newarray .int, 2) := by decide +kernel
theorem dX13_init_461 : decode cX13_init 461 = .ok (.putfield 165, 3) := by decide +kernel
theorem dX13_init_464 : decode cX13_init 464 = .ok (.aload_n 0, 1) := by decide +kernel
theorem dX13_init_465 : decode cX13_init 465 = .ok (.sipush 600, 3) := by decide +kernel
theorem dX13_init_468 : decode cX13_init 468 = .ok (.newarray .int, 2) := by decide +kernel
theorem dX13_init_470 : decode cX13_init 470 = .ok (.putfield 168, 3) := by decide +kernel
theorem dX13_init_473 : decode cX13_init 473 = .ok (.aload_n 0, 1) := by decide +kernel
theorem dX13_init_474 : decode cX13_init 474 = .ok (.sipush 600, 3) := by decide +kernel
theorem dX13_init_477 : decode cX13_init 477 = .ok (.newarray .int, 2) := by decide +kernel
theorem dX13_init_479 : decode cX13_init 479 = .ok (.putfield 171, 3) := by decide +kernel
theorem dX13_init_482 : decode cX13_init 482 = .ok (.aload_n 0, 1) := by decide +kernel
theorem dX13_init_483 : decode cX13_init 483 = .ok (.bipush 60, 2) := by decide +kernel
theorem dX13_init_485 : decode cX13_init 485 = .ok (.newarray .int, 2) := by decide +kernel
theorem dX13_init_487 : decode cX13_init 487 = .ok (.putfield 174, 3) := by decide +kernel
theorem dX13_init_490 : decode cX13_init 490 = .ok (.aload_n 0, 1) := by decide +kernel
theorem dX13_init_491 : decode cX13_init 491 = .ok (.bipush 60, 2) := by decide +kernel
theorem dX13_init_493 : decode cX13_init 493 = .ok (.newarray .int, 2) := by decide +kernel
theorem dX13_init_495 : decode cX13_init 495 = .ok (.putfield 177, 3) := by decide +kernel
theorem dX13_init_498 : decode cX13_init 498 = .ok (.aload_n 0, 1) := by decide +kernel
theorem dX13_init_499 : decode cX13_init 499 = .ok (.bipush 60, 2) := by decide +kernel
theorem dX13_init_501 : decode cX13_init 501 = .ok (.newarray .int, 2) := by decide +kernel
theorem dX13_init_503 : decode cX13_init 503 = .ok (.putfield 180, 3) := by decide +kernel
theorem dX13_init_506 : decode cX13_init 506 = .ok (.aload_n 0, 1) := by decide +kernel
theorem dX13_init_507 : decode cX13_init 507 = .ok (.bipush 60, 2) := by decide +kernel
theorem dX13_init_509 : decode cX13_init 509 = .ok (.newarray .int, 2) := by decide +kernel
theorem dX13_init_511 : decode cX13_init 511 = .ok (.putfield 183, 3) := by decide +kernel
theorem dX13_init_514 : decode cX13_init 514 = .ok (.aload_n 0, 1) := by decide +kernel
theorem dX13_init_515 : decode cX13_init 515 = .ok (.bipush 10, 2) := by decide +kernel
theorem dX13_init_517 : decode cX13_init 517 = .ok (.newarray .int, 2) := by decide +kernel
theorem dX13_init_519 : decode cX13_init 519 = .ok (.putfield 186, 3) := by decide +kernel
theorem dX13_init_522 : decode cX13_init 522 = .ok (.aload_n 0, 1) := by decide +kernel
theorem dX13_init_523 : decode cX13_init 523 = .ok (.bipush 10, 2) := by decide +kernel
theorem dX13_init_525 : decode cX13_init 525 = .ok (.newarray .int, 2) := by decide +kernel
theorem dX13_init_527 : decode cX13_init 527 = .ok (.putfield 189, 3) := by decide +kernel
theorem dX13_init_530 : decode cX13_init 530 = .ok (.aload_n 0, 1) := by decide +kernel
theorem dX13_init_531 : decode cX13_init 531 = .ok (.bipush 30, 2) := by decide +kernel
theorem dX13_init_533 : decode cX13_init 533 = .ok (.newarray .int, 2) := by decide +kernel
theorem dX13_init_535 : decode cX13_init 535 = .ok (.putfield 192, 3) := by decide +kernel
theorem dX13_init_538 : decode cX13_init 538 = .ok (.aload_n 0, 1) := by decide +kernel
theorem dX13_init_539 : decode cX13_init 539 = .ok (.bipush 9, 2) := by decide +kernel
theorem dX13_init_541 : decode cX13_init 541 = .ok (.newarray .int, 2) := by decide +kernel
theorem dX13_init_543 : decode cX13_init 543 = .ok (.putfield 195, 3) := by decide +kernel
theorem dX13_init_546 : decode cX13_init 546 = .ok (.aload_n 0, 1) := by decide +kernel
theorem dX13_init_547 : decode cX13_init 547 = .ok (.sipush 600, 3) := by decide +kernel
theorem dX13_init_550 : decode cX13_init 550 = .ok (.newarray .int, 2) := by decide +kernel
theorem dX13_init_552 : decode cX13_init 552 = .ok (.putfield 198, 3) := by decide +kernel
theorem dX13_init_555 : decode cX13_init 555 = .ok (.aload_n 0, 1) := by decide +kernel
theorem dX13_init_556 : decode cX13_init 556 = .ok (.bipush 12, 2) := by decide +kernel
theorem dX13_init_558 : decode cX13_init 558 = .ok (.newarray .int, 2) := by decide +kernel
theorem dX13_init_560 : decode cX13_init 560 = .ok (.putfield 201, 3) := by decide +kernel
theorem dX13_init_563 : decode cX13_init 563 = .ok (.aload_n 0, 1) := by decide +kernel
theorem dX13_init_564 : decode cX13_init 564 = .ok (.bipush 12, 2) := by decide +kernel
theorem dX13_init_566 : decode cX13_init 566 = .ok (.newarray .int, 2) := by decide +kernel
theorem dX13_init_568 : decode cX13_init 568 = .ok (.putfield 204, 3) := by decide +kernel
theorem dX13_init_571 : decode cX13_init 571 = .ok (.aload_n 0, 1) := by decide +kernel
theorem dX13_init_572 : decode cX13_init 572 = .ok (.bipush 12, 2) := by decide +kernel
theorem dX13_init_574 : decode cX13_init 574 = .ok (.newarray .byte, 2) := by decide +kernel
theorem dX13_init_576 : decode cX13_init 576 = .ok (.putfield 207, 3) := by decide +kernel
theorem dX13_init_579 : decode cX13_init 579 = .ok (.aload_n 0, 1) := by decide +kernel
theorem dX13_init_580 : decode cX13_init 580 = .ok (.bipush 60, 2) := by decide +kernel
theorem dX13_init_582 : decode cX13_init 582 = .ok (.newarray .int, 2) := by decide +kernel
theorem dX13_init_584 : decode cX13_init 584 = .ok (.putfield 210, 3) := by decide +kernel
theorem dX13_init_587 : decode cX13_init 587 = .ok (.aload_n 0, 1) := by decide +kernel
theorem dX13_init_588 : decode cX13_init 588 = .ok (.bipush 60, 2) := by decide +kernel
theorem dX13_init_590 : decode cX13_init 590 = .ok (.newarray .int, 2) := by decide +kernel
theorem dX13_init_592 : decode cX13_init 592 = .ok (.putfield 213, 3) := by decide +kernel
theorem dX13_init_595 : decode cX13_init 595 = .ok (.aload_n 0, 1) := by decide +kernel
theorem dX13_init_596 : decode cX13_init 596 = .ok (.bipush 60, 2) := by decide +kernel
theorem dX13_init_598 : decode cX13_init 598 = .ok (.newarray .int, 2) := by decide +kernel
theorem dX13_init_600 : decode cX13_init 600 = .ok (.putfield 216, 3) := by decide +kernel
theorem dX13_init_603 : decode cX13_init 603 = .ok (.aload_n 0, 1) := by decide +kernel
theorem dX13_init_604 : decode cX13_init 604 = .ok (.bipush 60, 2) := by decide +kernel
theorem dX13_init_606 : decode cX13_init 606 = .ok (.newarray .int, 2) := by decide +kernel
theorem dX13_init_608 : decode cX13_init 608 = .ok (.putfield 219, 3) := by decide +kernel
theorem dX13_init_611 : decode cX13_init 611 = .ok (.aload_n 0, 1) := by decide +kernel
theorem dX13_init_612 : decode cX13_init 612 = .ok (.bipush 7, 2) := by decide +kernel
theorem dX13_init_614 : decode cX13_init 614 = .ok (.newarray .int, 2) := by decide +kernel
theorem dX13_init_616 : decode cX13_init 616 = .ok (.putfield 222, 3) := by decide +kernel
theorem dX13_init_619 : decode cX13_init 619 = .ok (.aload_n 0, 1) := by decide +kernel
theorem dX13_init_620 : decode cX13_init 620 = .ok (.bipush 6, 2) := by decide +kernel
theorem dX13_init_622 : decode cX13_init 622 = .ok (.newarray .int, 2) := by decide +kernel
theorem dX13_init_624 : decode cX13_init 624 = .ok (.putfield 225, 3) := by decide +kernel
theorem dX13_init_627 : decode cX13_init 627 = .ok (.aload_n 0, 1) := by decide +kernel
theorem dX13_init_628 : decode cX13_init 628 = .ok (.bipush 42, 2) := by decide +kernel
theorem dX13_init_630 : decode cX13_init 630 = .ok (.newarray .boolean, 2) := by decide +kernel
theorem dX13_init_632 : decode cX13_init 632 = .ok (.putfield 228, 3) := by decide +kernel
theorem dX13_init_635 : decode cX13_init 635 = .ok (.aload_n 0, 1) := by decide +kernel
theorem dX13_init_636 : decode cX13_init 636 = .ok (.bipush 6, 2) := by decide +kernel
theorem dX13_init_638 : decode cX13_init 638 = .ok (.newarray .int, 2) := by decide +kernel
theorem dX13_init_640 : decode cX13_init 640 = .ok (.putfield 231, 3) := by decide +kernel
theorem dX13_init_643 : decode cX13_init 643 = .ok (.aload_n 0, 1) := by decide +kernel
theorem dX13_init_644 : decode cX13_init 644 = .ok (.bipush 7, 2) := by decide +kernel
theorem dX13_init_646 : decode cX13_init 646 = .ok (.newarray .int, 2) := by decide +kernel
theorem dX13_init_648 : decode cX13_init 648 = .ok (.putfield 234, 3) := by decide +kernel
theorem dX13_init_651 : decode cX13_init 651 = .ok (.aload_n 0, 1) := by decide +kernel
theorem dX13_init_652 : decode cX13_init 652 = .ok (.sipush 300, 3) := by decide +kernel
theorem dX13_init_655 : decode cX13_init 655 = .ok (.newarray .int, 2) := by decide +kernel
theorem dX13_init_657 : decode cX13_init 657 = .ok (.putfield 237, 3) := by decide +kernel
theorem dX13_init_660 : decode cX13_init 660 = .ok (.aload_n 0, 1) := by decide +kernel
theorem dX13_init_661 : decode cX13_init 661 = .ok (.sipush 9331, 3) := by decide +kernel
theorem dX13_init_664 : decode cX13_init 664 = .ok (.newarray .int, 2) := by decide +kernel
theorem dX13_init_666 : decode cX13_init 666 = .ok (.putfield 240, 3) := by decide +kernel
theorem dX13_init_669 : decode cX13_init 669 = .ok (.aload_n 0, 1) := by decide +kernel
theorem dX13_init_670 : decode cX13_init 670 = .ok (.sipush 9331, 3) := by decide +kernel
theorem dX13_init_673 : decode cX13_init 673 = .ok (.newarray .int, 2) := by decide +kernel
theorem dX13_init_675 : decode cX13_init 675 = .ok (.putfield 243, 3) := by decide +kernel
theorem dX13_init_678 : decode cX13_init 678 = .ok (.return_, 1) := by decide +kernel
theorem dX13_in_0 : decode cX13_in 0 = .ok (.iload_n 0, 1) := by decide +kernel
theorem dX13_in_1 : decode cX13_in 1 = .ok (.iload_n 1, 1) := by decide +kernel
theorem dX13_in_2 : decode cX13_in 2 = .ok (.if_icmp .lt 12, 3) := by decide +kernel
theorem dX13_in_5 : decode cX13_in 5 = .ok (.iload_n 0, 1) := by decide +kernel
theorem dX13_in_6 : decode cX13_in 6 = .ok (.iload_n 2, 1) := by decide +kernel
theorem dX13_in_7 : decode cX13_in 7 = .ok (.if_icmp .gt 7, 3) := by decide +kernel
theorem dX13_in_10 : decode cX13_in 10 = .ok (.iconst 1, 1) := by decide +kernel
theorem dX13_in_11 : decode cX13_in 11 = .ok (.goto 4, 3) := by decide +kernel
theorem dX13_in_14 : decode cX13_in 14 = .ok (.iconst 0, 1) := by decide +kernel
theorem dX13_in_15 : decode cX13_in 15 = .ok (.ireturn, 1) := by decide +kernel
theorem dX13_feed_0 : decode cX13_feed 0 = .ok (.aload_n 0, 1) := by decide +kernel
theorem dX13_feed_1 : decode cX13_feed 1 = .ok (.getfield 252, 3) := by decide +kernel
theorem dX13_feed_4 : decode cX13_feed 4 = .ok (.bipush 20, 2) := by decide +kernel
theorem dX13_feed_6 : decode cX13_feed 6 = .ok (.iadd, 1) := by decide +kernel
theorem dX13_feed_7 : decode cX13_feed 7 = .ok (.sipush 600, 3) := by decide +kernel
theorem dX13_feed_10 : decode cX13_feed 10 = .ok (.if_icmp .le 5, 3) := by decide +kernel
theorem dX13_feed_15 : decode cX13_feed 15 = .ok (.iconst 0, 1) := by decide +kernel
theorem dX13_feed_16 : decode cX13_feed 16 = .ok (.istore 6, 2) := by decide +kernel
theorem dX13_feed_18 : decode cX13_feed 18 = .ok (.iload 6, 2) := by decide +kernel
theorem dX13_feed_20 : decode cX13_feed 20 = .ok (.bipush 20, 2) := by decide +kernel
theorem dX13_feed_22 : decode cX13_feed 22 = .ok (.if_icmp .ge 90, 3) := by decide +kernel
theorem dX13_feed_25 : decode cX13_feed 25 = .ok (.iload 6, 2) := by decide +kernel
theorem dX13_feed_27 : decode cX13_feed 27 = .ok (.iconst 4, 1) := by decide +kernel
theorem dX13_feed_28 : decode cX13_feed 28 = .ok (.if_icmp .ge 7, 3) := by decide +kernel
theorem dX13_feed_31 : decode cX13_feed 31 = .ok (.iload_n 1, 1) := by decide +kernel
theorem dX13_feed_32 : decode cX13_feed 32 = .ok (.goto 39, 3) := by decide +kernel
theorem dX13_feed_35 : decode cX13_feed 35 = .ok (.iload 6, 2) := by decide +kernel
theorem dX13_feed_37 : decode cX13_feed 37 = .ok (.bipush 8, 2) := by decide +kernel
theorem dX13_feed_39 : decode cX13_feed 39 = .ok (.if_icmp .ge 7, 3) := by decide +kernel
theorem dX13_feed_42 : decode cX13_feed 42 = .ok (.iload_n 2, 1) := by decide +kernel
theorem dX13_feed_43 : decode cX13_feed 43 = .ok (.goto 28, 3) := by decide +kernel
theorem dX13_feed_46 : decode cX13_feed 46 = .ok (.iload 6, 2) := by decide +kernel
theorem dX13_feed_48 : decode cX13_feed 48 = .ok (.bipush 12, 2) := by decide +kernel
theorem dX13_feed_50 : decode cX13_feed 50 = .ok (.if_icmp .ge 7, 3) := by decide +kernel
theorem dX13_feed_53 : decode cX13_feed 53 = .ok (.iload_n 3, 1) := by decide +kernel
theorem dX13_feed_54 : decode cX13_feed 54 = .ok (.goto 17, 3) := by decide +kernel
theorem dX13_feed_57 : decode cX13_feed 57 = .ok (.iload 6, 2) := by decide +kernel
theorem dX13_feed_59 : decode cX13_feed 59 = .ok (.bipush 16, 2) := by decide +kernel
theorem dX13_feed_61 : decode cX13_feed 61 = .ok (.if_icmp .ge 8, 3) := by decide +kernel
theorem dX13_feed_64 : decode cX13_feed 64 = .ok (.iload 4, 2) := by decide +kernel
theorem dX13_feed_66 : decode cX13_feed 66 = .ok (.goto 5, 3) := by decide +kernel
theorem dX13_feed_69 : decode cX13_feed 69 = .ok (.iload 5, 2) := by decide +kernel
theorem dX13_feed_71 : decode cX13_feed 71 = .ok (.istore 7, 2) := by decide +kernel
theorem dX13_feed_73 : decode cX13_feed 73 = .ok (.aload_n 0, 1) := by decide +kernel
theorem dX13_feed_74 : decode cX13_feed 74 = .ok (.getfield 9, 3) := by decide +kernel
theorem dX13_feed_77 : decode cX13_feed 77 = .ok (.aload_n 0, 1) := by decide +kernel
theorem dX13_feed_78 : decode cX13_feed 78 = .ok (.getfield 252, 3) := by decide +kernel
theorem dX13_feed_81 : decode cX13_feed 81 = .ok (.iload 7, 2) := by decide +kernel
theorem dX13_feed_83 : decode cX13_feed 83 = .ok (.bipush 24, 2) := by decide +kernel
theorem dX13_feed_85 : decode cX13_feed 85 = .ok (.bipush 8, 2) := by decide +kernel
theorem dX13_feed_87 : decode cX13_feed 87 = .ok (.iload 6, 2) := by decide +kernel
theorem dX13_feed_89 : decode cX13_feed 89 = .ok (.iconst 4, 1) := by decide +kernel
theorem dX13_feed_90 : decode cX13_feed 90 = .ok (.irem, 1) := by decide +kernel
theorem dX13_feed_91 : decode cX13_feed 91 = .ok (.imul, 1) := by decide +kernel
theorem dX13_feed_92 : decode cX13_feed 92 = .ok (.isub, 1) := by decide +kernel
theorem dX13_feed_93 : decode cX13_feed 93 = .ok (.ishr, 1) := by decide +kernel
theorem dX13_feed_94 : decode cX13_feed 94 = .ok (.i2b, 1) := by decide +kernel
theorem dX13_feed_95 : decode cX13_feed 95 = .ok (.bastore, 1) := by decide +kernel
theorem dX13_feed_96 : decode cX13_feed 96 = .ok (.aload_n 0, 1) := by decide +kernel
theorem dX13_feed_97 : decode cX13_feed 97 = .ok (.dup, 1) := by decide +kernel
theorem dX13_feed_98 : decode cX13_feed 98 = .ok (.getfield 252, 3) := by decide +kernel
theorem dX13_feed_101 : decode cX13_feed 101 = .ok (.iconst 1, 1) := by decide +kernel
theorem dX13_feed_102 : decode cX13_feed 102 = .ok (.iadd, 1) := by decide +kernel
theorem dX13_feed_103 : decode cX13_feed 103 = .ok (.putfield 252, 3) := by decide +kernel
theorem dX13_feed_106 : decode cX13_feed 106 = .ok (.iinc 6 1, 3) := by decide +kernel
theorem dX13_feed_109 : decode cX13_feed 109 = .ok (.goto (-91), 3) := by decide +kernel
theorem dX13_feed_112 : decode cX13_feed 112 = .ok (.aload_n 0, 1) := by decide +kernel
theorem dX13_feed_113 : decode cX13_feed 113 = .ok (.getfield 252, 3) := by decide +kernel
theorem dX13_feed_116 : decode cX13_feed 116 = .ok (.ireturn, 1) := by decide +kernel
theorem dX13_end_0 : decode cX13_end 0 = .ok (.iload_n 1, 1) := by decide +kernel
theorem dX13_end_1 : decode cX13_end 1 = .ok (.iconst 0, 1) := by decide +kernel
theorem dX13_end_2 : decode cX13_end 2 = .ok (.aload_n 0, 1) := by decide +kernel
theorem dX13_end_3 : decode cX13_end 3 = .ok (.getfield 252, 3) := by decide +kernel
theorem dX13_end_6 : decode cX13_end 6 = .ok (.invokestatic 256, 3) := by decide +kernel
theorem dX13_end_9 : decode cX13_end 9 = .ok (.ifCond .ne 5, 3) := by decide +kernel
theorem dX13_end_12 : decode cX13_end 12 = .ok (.iconst 0, 1) := by decide +kernel
theorem dX13_end_13 : decode cX13_end 13 = .ok (.ireturn, 1) := by decide +kernel
theorem dX13_end_14 : decode cX13_end 14 = .ok (.aload_n 0, 1) := by decide +kernel
theorem dX13_end_15 : decode cX13_end 15 = .ok (.iload_n 1, 1) := by decide +kernel
theorem dX13_end_16 : decode cX13_end 16 = .ok (.putfield 252, 3) := by decide +kernel
theorem dX13_end_19 : decode cX13_end 19 = .ok (.iconst 1, 1) := by decide +kernel
theorem dX13_end_20 : decode cX13_end 20 = .ok (.ireturn, 1) := by decide +kernel
theorem dX13_isLetter_0 : decode cX13_isLetter 0 = .ok (.iload_n 0, 1) := by decide +kernel
theorem dX13_isLetter_1 : decode cX13_isLetter 1 = .ok (.bipush 97, 2) := by decide +kernel
theorem dX13_isLetter_3 : decode cX13_isLetter 3 = .ok (.if_icmp .lt 13, 3) := by decide +kernel
theorem dX13_isLetter_6 : decode cX13_isLetter 6 = .ok (.iload_n 0, 1) := by decide +kernel
theorem dX13_isLetter_7 : decode cX13_isLetter 7 = .ok (.bipush 122, 2) := by decide +kernel
theorem dX13_isLetter_9 : decode cX13_isLetter 9 = .ok (.if_icmp .gt 7, 3) := by decide +kernel
theorem dX13_isLetter_12 : decode cX13_isLetter 12 = .ok (.iconst 1, 1) := by decide +kernel
theorem dX13_isLetter_13 : decode cX13_isLetter 13 = .ok (.goto 4, 3) := by decide +kernel
theorem dX13_isLetter_16 : decode cX13_isLetter 16 = .ok (.iconst 0, 1) := by decide +kernel
theorem dX13_isLetter_17 : decode cX13_isLetter 17 = .ok (.ireturn, 1) := by decide +kernel
theorem dX13_isDigit_0 : decode cX13_isDigit 0 = .ok (.iload_n 0, 1) := by decide +kernel
theorem dX13_isDigit_1 : decode cX13_isDigit 1 = .ok (.bipush 48, 2) := by decide +kernel
theorem dX13_isDigit_3 : decode cX13_isDigit 3 = .ok (.if_icmp .lt 13, 3) := by decide +kernel
theorem dX13_isDigit_6 : decode cX13_isDigit 6 = .ok (.iload_n 0, 1) := by decide +kernel
theorem dX13_isDigit_7 : decode cX13_isDigit 7 = .ok (.bipush 57, 2) := by decide +kernel
theorem dX13_isDigit_9 : decode cX13_isDigit 9 = .ok (.if_icmp .gt 7, 3) := by decide +kernel
theorem dX13_isDigit_12 : decode cX13_isDigit 12 = .ok (.iconst 1, 1) := by decide +kernel
theorem dX13_isDigit_13 : decode cX13_isDigit 13 = .ok (.goto 4, 3) := by decide +kernel
theorem dX13_isDigit_16 : decode cX13_isDigit 16 = .ok (.iconst 0, 1) := by decide +kernel
theorem dX13_isDigit_17 : decode cX13_isDigit 17 = .ok (.ireturn, 1) := by decide +kernel
theorem dX13_next_0 : decode cX13_next 0 = .ok (.aload_n 0, 1) := by decide +kernel
theorem dX13_next_1 : decode cX13_next 1 = .ok (.getfield 272, 3) := by decide +kernel
theorem dX13_next_4 : decode cX13_next 4 = .ok (.aload_n 0, 1) := by decide +kernel
theorem dX13_next_5 : decode cX13_next 5 = .ok (.getfield 252, 3) := by decide +kernel
theorem dX13_next_8 : decode cX13_next 8 = .ok (.if_icmp .ge 44, 3) := by decide +kernel
theorem dX13_next_52 : decode cX13_next 52 = .ok (.aload_n 0, 1) := by decide +kernel
theorem dX13_next_53 : decode cX13_next 53 = .ok (.aload_n 0, 1) := by decide +kernel
theorem dX13_next_54 : decode cX13_next 54 = .ok (.getfield 272, 3) := by decide +kernel
theorem dX13_next_57 : decode cX13_next 57 = .ok (.putfield 275, 3) := by decide +kernel
theorem dX13_next_60 : decode cX13_next 60 = .ok (.aload_n 0, 1) := by decide +kernel
theorem dX13_next_61 : decode cX13_next 61 = .ok (.iconst 0, 1) := by decide +kernel
theorem dX13_next_62 : decode cX13_next 62 = .ok (.putfield 278, 3) := by decide +kernel
theorem dX13_next_65 : decode cX13_next 65 = .ok (.aload_n 0, 1) := by decide +kernel
theorem dX13_next_66 : decode cX13_next 66 = .ok (.iconst 0, 1) := by decide +kernel
theorem dX13_next_67 : decode cX13_next 67 = .ok (.putfield 281, 3) := by decide +kernel
theorem dX13_next_70 : decode cX13_next 70 = .ok (.aload_n 0, 1) := by decide +kernel
theorem dX13_next_71 : decode cX13_next 71 = .ok (.getfield 272, 3) := by decide +kernel
theorem dX13_next_74 : decode cX13_next 74 = .ok (.aload_n 0, 1) := by decide +kernel
theorem dX13_next_75 : decode cX13_next 75 = .ok (.getfield 252, 3) := by decide +kernel
theorem dX13_next_78 : decode cX13_next 78 = .ok (.if_icmp .ne 4, 3) := by decide +kernel
theorem dX13_next_81 : decode cX13_next 81 = .ok (.return_, 1) := by decide +kernel
theorem dX13_push_0 : decode cX13_push 0 = .ok (.aload_n 0, 1) := by decide +kernel
theorem dX13_push_1 : decode cX13_push 1 = .ok (.getfield 13, 3) := by decide +kernel
theorem dX13_push_4 : decode cX13_push 4 = .ok (.aload_n 0, 1) := by decide +kernel
theorem dX13_push_5 : decode cX13_push 5 = .ok (.getfield 295, 3) := by decide +kernel
theorem dX13_push_8 : decode cX13_push 8 = .ok (.iload_n 1, 1) := by decide +kernel
theorem dX13_push_9 : decode cX13_push 9 = .ok (.iastore, 1) := by decide +kernel
theorem dX13_push_10 : decode cX13_push 10 = .ok (.aload_n 0, 1) := by decide +kernel
theorem dX13_push_11 : decode cX13_push 11 = .ok (.dup, 1) := by decide +kernel
theorem dX13_push_12 : decode cX13_push 12 = .ok (.getfield 295, 3) := by decide +kernel
theorem dX13_push_15 : decode cX13_push 15 = .ok (.iconst 1, 1) := by decide +kernel
theorem dX13_push_16 : decode cX13_push 16 = .ok (.iadd, 1) := by decide +kernel
theorem dX13_push_17 : decode cX13_push 17 = .ok (.putfield 295, 3) := by decide +kernel
theorem dX13_push_20 : decode cX13_push 20 = .ok (.return_, 1) := by decide +kernel
theorem dX13_steps_0 : decode cX13_steps 0 = .ok (.iload_n 1, 1) := by decide +kernel
theorem dX13_steps_1 : decode cX13_steps 1 = .ok (.sipush 1000, 3) := by decide +kernel
theorem dX13_steps_4 : decode cX13_steps 4 = .ok (.if_icmp .lt 15, 3) := by decide +kernel
theorem dX13_steps_19 : decode cX13_steps 19 = .ok (.iload_n 1, 1) := by decide +kernel
theorem dX13_steps_20 : decode cX13_steps 20 = .ok (.bipush 100, 2) := by decide +kernel
theorem dX13_steps_22 : decode cX13_steps 22 = .ok (.if_icmp .lt 27, 3) := by decide +kernel
theorem dX13_steps_49 : decode cX13_steps 49 = .ok (.iload_n 1, 1) := by decide +kernel
theorem dX13_steps_50 : decode cX13_steps 50 = .ok (.tableswitch 182 0 12 #[66, 71, 78, 91, 98, 111, 116, 125, 138, 147, 160, 165, 170], 66) := by decide +kernel
theorem dX13_steps_116 : decode cX13_steps 116 = .ok (.aload_n 0, 1) := by decide +kernel
theorem dX13_steps_117 : decode cX13_steps 117 = .ok (.invokevirtual 322, 3) := by decide +kernel
theorem dX13_steps_120 : decode cX13_steps 120 = .ok (.ireturn, 1) := by decide +kernel
theorem dX13_clauses_0 : decode cX13_clauses 0 = .ok (.aload_n 0, 1) := by decide +kernel
theorem dX13_clauses_1 : decode cX13_clauses 1 = .ok (.getfield 281, 3) := by decide +kernel
theorem dX13_clauses_4 : decode cX13_clauses 4 = .ok (.ifCond .ne 5, 3) := by decide +kernel
theorem dX13_clauses_7 : decode cX13_clauses 7 = .ok (.iconst 1, 1) := by decide +kernel
theorem dX13_clauses_8 : decode cX13_clauses 8 = .ok (.ireturn, 1) := by decide +kernel
theorem dX13_reads_0 : decode cX13_reads 0 = .ok (.aload_n 0, 1) := by decide +kernel
theorem dX13_reads_1 : decode cX13_reads 1 = .ok (.iconst 0, 1) := by decide +kernel
theorem dX13_reads_2 : decode cX13_reads 2 = .ok (.putfield 272, 3) := by decide +kernel
theorem dX13_reads_5 : decode cX13_reads 5 = .ok (.aload_n 0, 1) := by decide +kernel
theorem dX13_reads_6 : decode cX13_reads 6 = .ok (.iconst 0, 1) := by decide +kernel
theorem dX13_reads_7 : decode cX13_reads 7 = .ok (.putfield 295, 3) := by decide +kernel
theorem dX13_reads_10 : decode cX13_reads 10 = .ok (.aload_n 0, 1) := by decide +kernel
theorem dX13_reads_11 : decode cX13_reads 11 = .ok (.iconst 0, 1) := by decide +kernel
theorem dX13_reads_12 : decode cX13_reads 12 = .ok (.putfield 304, 3) := by decide +kernel
theorem dX13_reads_15 : decode cX13_reads 15 = .ok (.aload_n 0, 1) := by decide +kernel
theorem dX13_reads_16 : decode cX13_reads 16 = .ok (.iconst 0, 1) := by decide +kernel
theorem dX13_reads_17 : decode cX13_reads 17 = .ok (.putfield 298, 3) := by decide +kernel
theorem dX13_reads_20 : decode cX13_reads 20 = .ok (.aload_n 0, 1) := by decide +kernel
theorem dX13_reads_21 : decode cX13_reads 21 = .ok (.iconst 0, 1) := by decide +kernel
theorem dX13_reads_22 : decode cX13_reads 22 = .ok (.putfield 361, 3) := by decide +kernel
theorem dX13_reads_25 : decode cX13_reads 25 = .ok (.iconst 0, 1) := by decide +kernel
theorem dX13_reads_26 : decode cX13_reads 26 = .ok (.istore_n 1, 1) := by decide +kernel
theorem dX13_reads_27 : decode cX13_reads 27 = .ok (.iload_n 1, 1) := by decide +kernel
theorem dX13_reads_28 : decode cX13_reads 28 = .ok (.bipush 14, 2) := by decide +kernel
theorem dX13_reads_30 : decode cX13_reads 30 = .ok (.if_icmp .ge 23, 3) := by decide +kernel
theorem dX13_reads_33 : decode cX13_reads 33 = .ok (.aload_n 0, 1) := by decide +kernel
theorem dX13_reads_34 : decode cX13_reads 34 = .ok (.getfield 23, 3) := by decide +kernel
theorem dX13_reads_37 : decode cX13_reads 37 = .ok (.iload_n 1, 1) := by decide +kernel
theorem dX13_reads_38 : decode cX13_reads 38 = .ok (.iconst (-1), 1) := by decide +kernel
theorem dX13_reads_39 : decode cX13_reads 39 = .ok (.iastore, 1) := by decide +kernel
theorem dX13_reads_40 : decode cX13_reads 40 = .ok (.aload_n 0, 1) := by decide +kernel
theorem dX13_reads_41 : decode cX13_reads 41 = .ok (.getfield 26, 3) := by decide +kernel
theorem dX13_reads_44 : decode cX13_reads 44 = .ok (.iload_n 1, 1) := by decide +kernel
theorem dX13_reads_45 : decode cX13_reads 45 = .ok (.iconst (-1), 1) := by decide +kernel
theorem dX13_reads_46 : decode cX13_reads 46 = .ok (.iastore, 1) := by decide +kernel
theorem dX13_reads_47 : decode cX13_reads 47 = .ok (.iinc 1 1, 3) := by decide +kernel
theorem dX13_reads_50 : decode cX13_reads 50 = .ok (.goto (-23), 3) := by decide +kernel
theorem dX13_reads_53 : decode cX13_reads 53 = .ok (.aload_n 0, 1) := by decide +kernel
theorem dX13_reads_54 : decode cX13_reads 54 = .ok (.invokevirtual 301, 3) := by decide +kernel
theorem dX13_reads_57 : decode cX13_reads 57 = .ok (.aload_n 0, 1) := by decide +kernel
theorem dX13_reads_58 : decode cX13_reads 58 = .ok (.iconst 0, 1) := by decide +kernel
theorem dX13_reads_59 : decode cX13_reads 59 = .ok (.invokevirtual 307, 3) := by decide +kernel
theorem dX13_reads_62 : decode cX13_reads 62 = .ok (.aload_n 0, 1) := by decide +kernel
theorem dX13_reads_63 : decode cX13_reads 63 = .ok (.getfield 295, 3) := by decide +kernel
theorem dX13_reads_66 : decode cX13_reads 66 = .ok (.ifCond .le 34, 3) := by decide +kernel
theorem dX13_reads_69 : decode cX13_reads 69 = .ok (.aload_n 0, 1) := by decide +kernel
theorem dX13_reads_70 : decode cX13_reads 70 = .ok (.dup, 1) := by decide +kernel
theorem dX13_reads_71 : decode cX13_reads 71 = .ok (.getfield 295, 3) := by decide +kernel
theorem dX13_reads_74 : decode cX13_reads 74 = .ok (.iconst 1, 1) := by decide +kernel
theorem dX13_reads_75 : decode cX13_reads 75 = .ok (.isub, 1) := by decide +kernel
theorem dX13_reads_76 : decode cX13_reads 76 = .ok (.putfield 295, 3) := by decide +kernel
theorem dX13_reads_79 : decode cX13_reads 79 = .ok (.aload_n 0, 1) := by decide +kernel
theorem dX13_reads_80 : decode cX13_reads 80 = .ok (.aload_n 0, 1) := by decide +kernel
theorem dX13_reads_81 : decode cX13_reads 81 = .ok (.getfield 13, 3) := by decide +kernel
theorem dX13_reads_84 : decode cX13_reads 84 = .ok (.aload_n 0, 1) := by decide +kernel
theorem dX13_reads_85 : decode cX13_reads 85 = .ok (.getfield 295, 3) := by decide +kernel
theorem dX13_reads_88 : decode cX13_reads 88 = .ok (.iaload, 1) := by decide +kernel
theorem dX13_reads_89 : decode cX13_reads 89 = .ok (.invokevirtual 368, 3) := by decide +kernel
theorem dX13_reads_92 : decode cX13_reads 92 = .ok (.ifCond .ne (-30), 3) := by decide +kernel
theorem dX13_reads_100 : decode cX13_reads 100 = .ok (.iconst (-1), 1) := by decide +kernel
theorem dX13_reads_101 : decode cX13_reads 101 = .ok (.ireturn, 1) := by decide +kernel
theorem dX13_fault_0 : decode cX13_fault 0 = .ok (.aload_n 0, 1) := by decide +kernel
theorem dX13_fault_1 : decode cX13_fault 1 = .ok (.invokevirtual 371, 3) := by decide +kernel
theorem dX13_fault_4 : decode cX13_fault 4 = .ok (.ireturn, 1) := by decide +kernel
theorem dX13_sheet_0 : decode cX13_sheet 0 = .ok (.aload_n 0, 1) := by decide +kernel
theorem dX13_sheet_1 : decode cX13_sheet 1 = .ok (.getfield 374, 3) := by decide +kernel
theorem dX13_sheet_4 : decode cX13_sheet 4 = .ok (.bipush 12, 2) := by decide +kernel
theorem dX13_sheet_6 : decode cX13_sheet 6 = .ok (.if_icmp .eq 11, 3) := by decide +kernel
theorem dX13_sheet_9 : decode cX13_sheet 9 = .ok (.aload_n 0, 1) := by decide +kernel
theorem dX13_sheet_10 : decode cX13_sheet 10 = .ok (.invokevirtual 371, 3) := by decide +kernel
theorem dX13_sheet_13 : decode cX13_sheet 13 = .ok (.iconst (-1), 1) := by decide +kernel
theorem dX13_sheet_14 : decode cX13_sheet 14 = .ok (.if_icmp .eq 5, 3) := by decide +kernel
theorem dX13_sheet_19 : decode cX13_sheet 19 = .ok (.iconst 0, 1) := by decide +kernel
theorem dX13_sheet_20 : decode cX13_sheet 20 = .ok (.istore_n 1, 1) := by decide +kernel
theorem dX13_sheet_21 : decode cX13_sheet 21 = .ok (.iload_n 1, 1) := by decide +kernel
theorem dX13_sheet_22 : decode cX13_sheet 22 = .ok (.aload_n 0, 1) := by decide +kernel
theorem dX13_sheet_23 : decode cX13_sheet 23 = .ok (.getfield 298, 3) := by decide +kernel
theorem dX13_sheet_26 : decode cX13_sheet 26 = .ok (.if_icmp .ge 51, 3) := by decide +kernel
theorem dX13_sheet_77 : decode cX13_sheet 77 = .ok (.iconst 0, 1) := by decide +kernel
theorem dX13_sheet_78 : decode cX13_sheet 78 = .ok (.istore_n 1, 1) := by decide +kernel
theorem dX13_sheet_79 : decode cX13_sheet 79 = .ok (.iload_n 1, 1) := by decide +kernel
theorem dX13_sheet_80 : decode cX13_sheet 80 = .ok (.bipush 14, 2) := by decide +kernel
theorem dX13_sheet_82 : decode cX13_sheet 82 = .ok (.if_icmp .ge 49, 3) := by decide +kernel
theorem dX13_sheet_85 : decode cX13_sheet 85 = .ok (.aload_n 0, 1) := by decide +kernel
theorem dX13_sheet_86 : decode cX13_sheet 86 = .ok (.getfield 41, 3) := by decide +kernel
theorem dX13_sheet_89 : decode cX13_sheet 89 = .ok (.bipush 14, 2) := by decide +kernel
theorem dX13_sheet_91 : decode cX13_sheet 91 = .ok (.aload_n 0, 1) := by decide +kernel
theorem dX13_sheet_92 : decode cX13_sheet 92 = .ok (.getfield 374, 3) := by decide +kernel
theorem dX13_sheet_95 : decode cX13_sheet 95 = .ok (.imul, 1) := by decide +kernel
theorem dX13_sheet_96 : decode cX13_sheet 96 = .ok (.iload_n 1, 1) := by decide +kernel
theorem dX13_sheet_97 : decode cX13_sheet 97 = .ok (.iadd, 1) := by decide +kernel
theorem dX13_sheet_98 : decode cX13_sheet 98 = .ok (.aload_n 0, 1) := by decide +kernel
theorem dX13_sheet_99 : decode cX13_sheet 99 = .ok (.getfield 23, 3) := by decide +kernel
theorem dX13_sheet_102 : decode cX13_sheet 102 = .ok (.iload_n 1, 1) := by decide +kernel
theorem dX13_sheet_103 : decode cX13_sheet 103 = .ok (.iaload, 1) := by decide +kernel
theorem dX13_sheet_104 : decode cX13_sheet 104 = .ok (.iastore, 1) := by decide +kernel
theorem dX13_sheet_105 : decode cX13_sheet 105 = .ok (.aload_n 0, 1) := by decide +kernel
theorem dX13_sheet_106 : decode cX13_sheet 106 = .ok (.getfield 44, 3) := by decide +kernel
theorem dX13_sheet_109 : decode cX13_sheet 109 = .ok (.bipush 14, 2) := by decide +kernel
theorem dX13_sheet_111 : decode cX13_sheet 111 = .ok (.aload_n 0, 1) := by decide +kernel
theorem dX13_sheet_112 : decode cX13_sheet 112 = .ok (.getfield 374, 3) := by decide +kernel
theorem dX13_sheet_115 : decode cX13_sheet 115 = .ok (.imul, 1) := by decide +kernel
theorem dX13_sheet_116 : decode cX13_sheet 116 = .ok (.iload_n 1, 1) := by decide +kernel
theorem dX13_sheet_117 : decode cX13_sheet 117 = .ok (.iadd, 1) := by decide +kernel
theorem dX13_sheet_118 : decode cX13_sheet 118 = .ok (.aload_n 0, 1) := by decide +kernel
theorem dX13_sheet_119 : decode cX13_sheet 119 = .ok (.getfield 26, 3) := by decide +kernel
theorem dX13_sheet_122 : decode cX13_sheet 122 = .ok (.iload_n 1, 1) := by decide +kernel
theorem dX13_sheet_123 : decode cX13_sheet 123 = .ok (.iaload, 1) := by decide +kernel
theorem dX13_sheet_124 : decode cX13_sheet 124 = .ok (.iastore, 1) := by decide +kernel
theorem dX13_sheet_125 : decode cX13_sheet 125 = .ok (.iinc 1 1, 3) := by decide +kernel
theorem dX13_sheet_128 : decode cX13_sheet 128 = .ok (.goto (-49), 3) := by decide +kernel
theorem dX13_sheet_131 : decode cX13_sheet 131 = .ok (.aload_n 0, 1) := by decide +kernel
theorem dX13_sheet_132 : decode cX13_sheet 132 = .ok (.getfield 47, 3) := by decide +kernel
theorem dX13_sheet_135 : decode cX13_sheet 135 = .ok (.aload_n 0, 1) := by decide +kernel
theorem dX13_sheet_136 : decode cX13_sheet 136 = .ok (.getfield 374, 3) := by decide +kernel
theorem dX13_sheet_139 : decode cX13_sheet 139 = .ok (.aload_n 0, 1) := by decide +kernel
theorem dX13_sheet_140 : decode cX13_sheet 140 = .ok (.getfield 361, 3) := by decide +kernel
theorem dX13_sheet_143 : decode cX13_sheet 143 = .ok (.iastore, 1) := by decide +kernel
theorem dX13_sheet_144 : decode cX13_sheet 144 = .ok (.iconst 0, 1) := by decide +kernel
theorem dX13_sheet_145 : decode cX13_sheet 145 = .ok (.istore_n 1, 1) := by decide +kernel
theorem dX13_sheet_146 : decode cX13_sheet 146 = .ok (.iload_n 1, 1) := by decide +kernel
theorem dX13_sheet_147 : decode cX13_sheet 147 = .ok (.aload_n 0, 1) := by decide +kernel
theorem dX13_sheet_148 : decode cX13_sheet 148 = .ok (.getfield 361, 3) := by decide +kernel
theorem dX13_sheet_151 : decode cX13_sheet 151 = .ok (.if_icmp .ge 72, 3) := by decide +kernel
theorem dX13_sheet_223 : decode cX13_sheet 223 = .ok (.aload_n 0, 1) := by decide +kernel
theorem dX13_sheet_224 : decode cX13_sheet 224 = .ok (.iconst 0, 1) := by decide +kernel
theorem dX13_sheet_225 : decode cX13_sheet 225 = .ok (.putfield 252, 3) := by decide +kernel
theorem dX13_sheet_228 : decode cX13_sheet 228 = .ok (.aload_n 0, 1) := by decide +kernel
theorem dX13_sheet_229 : decode cX13_sheet 229 = .ok (.dup, 1) := by decide +kernel
theorem dX13_sheet_230 : decode cX13_sheet 230 = .ok (.getfield 374, 3) := by decide +kernel
theorem dX13_sheet_233 : decode cX13_sheet 233 = .ok (.iconst 1, 1) := by decide +kernel
theorem dX13_sheet_234 : decode cX13_sheet 234 = .ok (.iadd, 1) := by decide +kernel
theorem dX13_sheet_235 : decode cX13_sheet 235 = .ok (.putfield 374, 3) := by decide +kernel
theorem dX13_sheet_238 : decode cX13_sheet 238 = .ok (.aload_n 0, 1) := by decide +kernel
theorem dX13_sheet_239 : decode cX13_sheet 239 = .ok (.getfield 374, 3) := by decide +kernel
theorem dX13_sheet_242 : decode cX13_sheet 242 = .ok (.iconst 1, 1) := by decide +kernel
theorem dX13_sheet_243 : decode cX13_sheet 243 = .ok (.isub, 1) := by decide +kernel
theorem dX13_sheet_244 : decode cX13_sheet 244 = .ok (.ireturn, 1) := by decide +kernel
theorem dX13_isVolume_0 : decode cX13_isVolume 0 = .ok (.iload_n 0, 1) := by decide +kernel
theorem dX13_isVolume_1 : decode cX13_isVolume 1 = .ok (.iconst 0, 1) := by decide +kernel
theorem dX13_isVolume_2 : decode cX13_isVolume 2 = .ok (.iconst 5, 1) := by decide +kernel
theorem dX13_isVolume_3 : decode cX13_isVolume 3 = .ok (.invokestatic 256, 3) := by decide +kernel
theorem dX13_isVolume_6 : decode cX13_isVolume 6 = .ok (.ireturn, 1) := by decide +kernel
theorem dX13_force_0 : decode cX13_force 0 = .ok (.iload_n 1, 1) := by decide +kernel
theorem dX13_force_1 : decode cX13_force 1 = .ok (.iconst 0, 1) := by decide +kernel
theorem dX13_force_2 : decode cX13_force 2 = .ok (.aload_n 0, 1) := by decide +kernel
theorem dX13_force_3 : decode cX13_force 3 = .ok (.getfield 374, 3) := by decide +kernel
theorem dX13_force_6 : decode cX13_force 6 = .ok (.iconst 1, 1) := by decide +kernel
theorem dX13_force_7 : decode cX13_force 7 = .ok (.isub, 1) := by decide +kernel
theorem dX13_force_8 : decode cX13_force 8 = .ok (.invokestatic 256, 3) := by decide +kernel
theorem dX13_force_11 : decode cX13_force 11 = .ok (.ifCond .eq 33, 3) := by decide +kernel
theorem dX13_force_44 : decode cX13_force 44 = .ok (.iconst (-1), 1) := by decide +kernel
theorem dX13_force_45 : decode cX13_force 45 = .ok (.ireturn, 1) := by decide +kernel
theorem dX13_inForce_0 : decode cX13_inForce 0 = .ok (.aload_n 0, 1) := by decide +kernel
theorem dX13_inForce_1 : decode cX13_inForce 1 = .ok (.getfield 380, 3) := by decide +kernel
theorem dX13_inForce_4 : decode cX13_inForce 4 = .ok (.iconst 1, 1) := by decide +kernel
theorem dX13_inForce_5 : decode cX13_inForce 5 = .ok (.isub, 1) := by decide +kernel
theorem dX13_inForce_6 : decode cX13_inForce 6 = .ok (.istore 4, 2) := by decide +kernel
theorem dX13_inForce_8 : decode cX13_inForce 8 = .ok (.iload 4, 2) := by decide +kernel
theorem dX13_inForce_10 : decode cX13_inForce 10 = .ok (.ifCond .lt 74, 3) := by decide +kernel
theorem dX13_inForce_84 : decode cX13_inForce 84 = .ok (.iconst (-1), 1) := by decide +kernel
theorem dX13_inForce_85 : decode cX13_inForce 85 = .ok (.ireturn, 1) := by decide +kernel
theorem dX13_rule_0 : decode cX13_rule 0 = .ok (.iload_n 1, 1) := by decide +kernel
theorem dX13_rule_1 : decode cX13_rule 1 = .ok (.iconst 0, 1) := by decide +kernel
theorem dX13_rule_2 : decode cX13_rule 2 = .ok (.iconst 4, 1) := by decide +kernel
theorem dX13_rule_3 : decode cX13_rule 3 = .ok (.invokestatic 256, 3) := by decide +kernel
theorem dX13_rule_6 : decode cX13_rule 6 = .ok (.ifCond .eq 7, 3) := by decide +kernel
theorem dX13_rule_9 : decode cX13_rule 9 = .ok (.iload_n 1, 1) := by decide +kernel
theorem dX13_rule_10 : decode cX13_rule 10 = .ok (.goto 44, 3) := by decide +kernel
theorem dX13_rule_13 : decode cX13_rule 13 = .ok (.iload_n 1, 1) := by decide +kernel
theorem dX13_rule_14 : decode cX13_rule 14 = .ok (.bipush 10, 2) := by decide +kernel
theorem dX13_rule_16 : decode cX13_rule 16 = .ok (.if_icmp .lt 37, 3) := by decide +kernel
theorem dX13_rule_19 : decode cX13_rule 19 = .ok (.iload_n 1, 1) := by decide +kernel
theorem dX13_rule_20 : decode cX13_rule 20 = .ok (.bipush 10, 2) := by decide +kernel
theorem dX13_rule_22 : decode cX13_rule 22 = .ok (.idiv, 1) := by decide +kernel
theorem dX13_rule_23 : decode cX13_rule 23 = .ok (.iconst 3, 1) := by decide +kernel
theorem dX13_rule_24 : decode cX13_rule 24 = .ok (.if_icmp .gt 29, 3) := by decide +kernel
theorem dX13_rule_27 : decode cX13_rule 27 = .ok (.iload_n 1, 1) := by decide +kernel
theorem dX13_rule_28 : decode cX13_rule 28 = .ok (.bipush 10, 2) := by decide +kernel
theorem dX13_rule_30 : decode cX13_rule 30 = .ok (.irem, 1) := by decide +kernel
theorem dX13_rule_31 : decode cX13_rule 31 = .ok (.iconst 2, 1) := by decide +kernel
theorem dX13_rule_32 : decode cX13_rule 32 = .ok (.if_icmp .gt 21, 3) := by decide +kernel
theorem dX13_rule_35 : decode cX13_rule 35 = .ok (.iconst 5, 1) := by decide +kernel
theorem dX13_rule_36 : decode cX13_rule 36 = .ok (.iconst 3, 1) := by decide +kernel
theorem dX13_rule_37 : decode cX13_rule 37 = .ok (.iload_n 1, 1) := by decide +kernel
theorem dX13_rule_38 : decode cX13_rule 38 = .ok (.bipush 10, 2) := by decide +kernel
theorem dX13_rule_40 : decode cX13_rule 40 = .ok (.idiv, 1) := by decide +kernel
theorem dX13_rule_41 : decode cX13_rule 41 = .ok (.iconst 1, 1) := by decide +kernel
theorem dX13_rule_42 : decode cX13_rule 42 = .ok (.isub, 1) := by decide +kernel
theorem dX13_rule_43 : decode cX13_rule 43 = .ok (.imul, 1) := by decide +kernel
theorem dX13_rule_44 : decode cX13_rule 44 = .ok (.iadd, 1) := by decide +kernel
theorem dX13_rule_45 : decode cX13_rule 45 = .ok (.iload_n 1, 1) := by decide +kernel
theorem dX13_rule_46 : decode cX13_rule 46 = .ok (.bipush 10, 2) := by decide +kernel
theorem dX13_rule_48 : decode cX13_rule 48 = .ok (.irem, 1) := by decide +kernel
theorem dX13_rule_49 : decode cX13_rule 49 = .ok (.iadd, 1) := by decide +kernel
theorem dX13_rule_50 : decode cX13_rule 50 = .ok (.goto 4, 3) := by decide +kernel
theorem dX13_rule_53 : decode cX13_rule 53 = .ok (.iconst (-1), 1) := by decide +kernel
theorem dX13_rule_54 : decode cX13_rule 54 = .ok (.istore 4, 2) := by decide +kernel
theorem dX13_rule_56 : decode cX13_rule 56 = .ok (.iload 4, 2) := by decide +kernel
theorem dX13_rule_58 : decode cX13_rule 58 = .ok (.iconst (-1), 1) := by decide +kernel
theorem dX13_rule_59 : decode cX13_rule 59 = .ok (.if_icmp .eq 36, 3) := by decide +kernel
theorem dX13_rule_62 : decode cX13_rule 62 = .ok (.iload_n 2, 1) := by decide +kernel
theorem dX13_rule_63 : decode cX13_rule 63 = .ok (.iconst 0, 1) := by decide +kernel
theorem dX13_rule_64 : decode cX13_rule 64 = .ok (.bipush 6, 2) := by decide +kernel
theorem dX13_rule_66 : decode cX13_rule 66 = .ok (.invokestatic 256, 3) := by decide +kernel
theorem dX13_rule_69 : decode cX13_rule 69 = .ok (.ifCond .eq 26, 3) := by decide +kernel
theorem dX13_rule_72 : decode cX13_rule 72 = .ok (.iload_n 3, 1) := by decide +kernel
theorem dX13_rule_73 : decode cX13_rule 73 = .ok (.iconst 0, 1) := by decide +kernel
theorem dX13_rule_74 : decode cX13_rule 74 = .ok (.aload_n 0, 1) := by decide +kernel
theorem dX13_rule_75 : decode cX13_rule 75 = .ok (.getfield 383, 3) := by decide +kernel
theorem dX13_rule_78 : decode cX13_rule 78 = .ok (.invokestatic 256, 3) := by decide +kernel
theorem dX13_rule_81 : decode cX13_rule 81 = .ok (.ifCond .eq 14, 3) := by decide +kernel
theorem dX13_rule_84 : decode cX13_rule 84 = .ok (.aload_n 0, 1) := by decide +kernel
theorem dX13_rule_85 : decode cX13_rule 85 = .ok (.iload 4, 2) := by decide +kernel
theorem dX13_rule_87 : decode cX13_rule 87 = .ok (.iload_n 2, 1) := by decide +kernel
theorem dX13_rule_88 : decode cX13_rule 88 = .ok (.iload_n 3, 1) := by decide +kernel
theorem dX13_rule_89 : decode cX13_rule 89 = .ok (.invokevirtual 386, 3) := by decide +kernel
theorem dX13_rule_92 : decode cX13_rule 92 = .ok (.goto 4, 3) := by decide +kernel
theorem dX13_rule_95 : decode cX13_rule 95 = .ok (.iconst (-1), 1) := by decide +kernel
theorem dX13_rule_96 : decode cX13_rule 96 = .ok (.ireturn, 1) := by decide +kernel
theorem dX13_isEntry_0 : decode cX13_isEntry 0 = .ok (.iload_n 1, 1) := by decide +kernel
theorem dX13_isEntry_1 : decode cX13_isEntry 1 = .ok (.iconst 0, 1) := by decide +kernel
theorem dX13_isEntry_2 : decode cX13_isEntry 2 = .ok (.aload_n 0, 1) := by decide +kernel
theorem dX13_isEntry_3 : decode cX13_isEntry 3 = .ok (.getfield 418, 3) := by decide +kernel
theorem dX13_isEntry_6 : decode cX13_isEntry 6 = .ok (.iconst 1, 1) := by decide +kernel
theorem dX13_isEntry_7 : decode cX13_isEntry 7 = .ok (.isub, 1) := by decide +kernel
theorem dX13_isEntry_8 : decode cX13_isEntry 8 = .ok (.invokestatic 256, 3) := by decide +kernel
theorem dX13_isEntry_11 : decode cX13_isEntry 11 = .ok (.ireturn, 1) := by decide +kernel
theorem dX13_isArticle_0 : decode cX13_isArticle 0 = .ok (.aload_n 0, 1) := by decide +kernel
theorem dX13_isArticle_1 : decode cX13_isArticle 1 = .ok (.iload_n 1, 1) := by decide +kernel
theorem dX13_isArticle_2 : decode cX13_isArticle 2 = .ok (.invokevirtual 421, 3) := by decide +kernel
theorem dX13_isArticle_5 : decode cX13_isArticle 5 = .ok (.ifCond .eq 16, 3) := by decide +kernel
theorem dX13_isArticle_21 : decode cX13_isArticle 21 = .ok (.iconst 0, 1) := by decide +kernel
theorem dX13_isArticle_22 : decode cX13_isArticle 22 = .ok (.ireturn, 1) := by decide +kernel
theorem dX13_go_0 : decode cX13_go 0 = .ok (.iload_n 1, 1) := by decide +kernel
theorem dX13_go_1 : decode cX13_go 1 = .ok (.iconst 0, 1) := by decide +kernel
theorem dX13_go_2 : decode cX13_go 2 = .ok (.sipush 300, 3) := by decide +kernel
theorem dX13_go_5 : decode cX13_go 5 = .ok (.invokestatic 256, 3) := by decide +kernel
theorem dX13_go_8 : decode cX13_go 8 = .ok (.ifCond .ne 5, 3) := by decide +kernel
theorem dX13_go_11 : decode cX13_go 11 = .ok (.iconst (-1), 1) := by decide +kernel
theorem dX13_go_12 : decode cX13_go 12 = .ok (.ireturn, 1) := by decide +kernel
theorem dX13_go_13 : decode cX13_go 13 = .ok (.aload_n 0, 1) := by decide +kernel
theorem dX13_go_14 : decode cX13_go 14 = .ok (.aload_n 0, 1) := by decide +kernel
theorem dX13_go_15 : decode cX13_go 15 = .ok (.getfield 383, 3) := by decide +kernel
theorem dX13_go_18 : decode cX13_go 18 = .ok (.iload_n 1, 1) := by decide +kernel
theorem dX13_go_19 : decode cX13_go 19 = .ok (.iadd, 1) := by decide +kernel
theorem dX13_go_20 : decode cX13_go 20 = .ok (.sipush 2000, 3) := by decide +kernel
theorem dX13_go_23 : decode cX13_go 23 = .ok (.if_icmp .le 9, 3) := by decide +kernel
theorem dX13_go_32 : decode cX13_go 32 = .ok (.aload_n 0, 1) := by decide +kernel
theorem dX13_go_33 : decode cX13_go 33 = .ok (.getfield 383, 3) := by decide +kernel
theorem dX13_go_36 : decode cX13_go 36 = .ok (.iload_n 1, 1) := by decide +kernel
theorem dX13_go_37 : decode cX13_go 37 = .ok (.iadd, 1) := by decide +kernel
theorem dX13_go_38 : decode cX13_go 38 = .ok (.putfield 383, 3) := by decide +kernel
theorem dX13_go_41 : decode cX13_go 41 = .ok (.aload_n 0, 1) := by decide +kernel
theorem dX13_go_42 : decode cX13_go 42 = .ok (.getfield 383, 3) := by decide +kernel
theorem dX13_go_45 : decode cX13_go 45 = .ok (.ireturn, 1) := by decide +kernel
theorem dX13_bound_0 : decode cX13_bound 0 = .ok (.iload_n 1, 1) := by decide +kernel
theorem dX13_bound_1 : decode cX13_bound 1 = .ok (.iconst 0, 1) := by decide +kernel
theorem dX13_bound_2 : decode cX13_bound 2 = .ok (.iconst 4, 1) := by decide +kernel
theorem dX13_bound_3 : decode cX13_bound 3 = .ok (.invokestatic 256, 3) := by decide +kernel
theorem dX13_bound_6 : decode cX13_bound 6 = .ok (.ifCond .eq 44, 3) := by decide +kernel
theorem dX13_bound_9 : decode cX13_bound 9 = .ok (.iload_n 2, 1) := by decide +kernel
theorem dX13_bound_10 : decode cX13_bound 10 = .ok (.iload_n 1, 1) := by decide +kernel
theorem dX13_bound_11 : decode cX13_bound 11 = .ok (.ifCond .ne 7, 3) := by decide +kernel
theorem dX13_bound_14 : decode cX13_bound 14 = .ok (.iconst 0, 1) := by decide +kernel
theorem dX13_bound_15 : decode cX13_bound 15 = .ok (.goto 11, 3) := by decide +kernel
theorem dX13_bound_18 : decode cX13_bound 18 = .ok (.aload_n 0, 1) := by decide +kernel
theorem dX13_bound_19 : decode cX13_bound 19 = .ok (.getfield 65, 3) := by decide +kernel
theorem dX13_bound_22 : decode cX13_bound 22 = .ok (.iload_n 1, 1) := by decide +kernel
theorem dX13_bound_23 : decode cX13_bound 23 = .ok (.iconst 1, 1) := by decide +kernel
theorem dX13_bound_24 : decode cX13_bound 24 = .ok (.isub, 1) := by decide +kernel
theorem dX13_bound_25 : decode cX13_bound 25 = .ok (.iaload, 1) := by decide +kernel
theorem dX13_bound_26 : decode cX13_bound 26 = .ok (.iload_n 1, 1) := by decide +kernel
theorem dX13_bound_27 : decode cX13_bound 27 = .ok (.iconst 4, 1) := by decide +kernel
theorem dX13_bound_28 : decode cX13_bound 28 = .ok (.if_icmp .ne 8, 3) := by decide +kernel
theorem dX13_bound_31 : decode cX13_bound 31 = .ok (.bipush 25, 2) := by decide +kernel
theorem dX13_bound_33 : decode cX13_bound 33 = .ok (.goto 11, 3) := by decide +kernel
theorem dX13_bound_36 : decode cX13_bound 36 = .ok (.aload_n 0, 1) := by decide +kernel
theorem dX13_bound_37 : decode cX13_bound 37 = .ok (.getfield 65, 3) := by decide +kernel
theorem dX13_bound_40 : decode cX13_bound 40 = .ok (.iload_n 1, 1) := by decide +kernel
theorem dX13_bound_41 : decode cX13_bound 41 = .ok (.iconst 1, 1) := by decide +kernel
theorem dX13_bound_42 : decode cX13_bound 42 = .ok (.iadd, 1) := by decide +kernel
theorem dX13_bound_43 : decode cX13_bound 43 = .ok (.iaload, 1) := by decide +kernel
theorem dX13_bound_44 : decode cX13_bound 44 = .ok (.invokestatic 256, 3) := by decide +kernel
theorem dX13_bound_47 : decode cX13_bound 47 = .ok (.ifCond .ne 5, 3) := by decide +kernel
theorem dX13_bound_50 : decode cX13_bound 50 = .ok (.iconst 0, 1) := by decide +kernel
theorem dX13_bound_51 : decode cX13_bound 51 = .ok (.ireturn, 1) := by decide +kernel
theorem dX13_bound_52 : decode cX13_bound 52 = .ok (.iconst 0, 1) := by decide +kernel
theorem dX13_bound_53 : decode cX13_bound 53 = .ok (.istore_n 3, 1) := by decide +kernel
theorem dX13_bound_54 : decode cX13_bound 54 = .ok (.iload_n 3, 1) := by decide +kernel
theorem dX13_bound_55 : decode cX13_bound 55 = .ok (.bipush 6, 2) := by decide +kernel
theorem dX13_bound_57 : decode cX13_bound 57 = .ok (.if_icmp .ge 20, 3) := by decide +kernel
theorem dX13_bound_60 : decode cX13_bound 60 = .ok (.aload_n 0, 1) := by decide +kernel
theorem dX13_bound_61 : decode cX13_bound 61 = .ok (.getfield 68, 3) := by decide +kernel
theorem dX13_bound_64 : decode cX13_bound 64 = .ok (.iload_n 3, 1) := by decide +kernel
theorem dX13_bound_65 : decode cX13_bound 65 = .ok (.baload, 1) := by decide +kernel
theorem dX13_bound_66 : decode cX13_bound 66 = .ok (.ifCond .eq 5, 3) := by decide +kernel
theorem dX13_bound_71 : decode cX13_bound 71 = .ok (.iinc 3 1, 3) := by decide +kernel
theorem dX13_bound_74 : decode cX13_bound 74 = .ok (.goto (-20), 3) := by decide +kernel
theorem dX13_bound_77 : decode cX13_bound 77 = .ok (.aload_n 0, 1) := by decide +kernel
theorem dX13_bound_78 : decode cX13_bound 78 = .ok (.getfield 65, 3) := by decide +kernel
theorem dX13_bound_81 : decode cX13_bound 81 = .ok (.iload_n 1, 1) := by decide +kernel
theorem dX13_bound_82 : decode cX13_bound 82 = .ok (.iload_n 2, 1) := by decide +kernel
theorem dX13_bound_83 : decode cX13_bound 83 = .ok (.iastore, 1) := by decide +kernel
theorem dX13_bound_84 : decode cX13_bound 84 = .ok (.iconst 1, 1) := by decide +kernel
theorem dX13_bound_85 : decode cX13_bound 85 = .ok (.ireturn, 1) := by decide +kernel
theorem dX13_headingOf_0 : decode cX13_headingOf 0 = .ok (.iconst 0, 1) := by decide +kernel
theorem dX13_headingOf_1 : decode cX13_headingOf 1 = .ok (.istore 4, 2) := by decide +kernel
theorem dX13_headingOf_3 : decode cX13_headingOf 3 = .ok (.iconst 0, 1) := by decide +kernel
theorem dX13_headingOf_4 : decode cX13_headingOf 4 = .ok (.istore 5, 2) := by decide +kernel
theorem dX13_headingOf_6 : decode cX13_headingOf 6 = .ok (.iconst 0, 1) := by decide +kernel
theorem dX13_headingOf_7 : decode cX13_headingOf 7 = .ok (.istore 6, 2) := by decide +kernel
theorem dX13_headingOf_9 : decode cX13_headingOf 9 = .ok (.iload 6, 2) := by decide +kernel
theorem dX13_headingOf_11 : decode cX13_headingOf 11 = .ok (.bipush 12, 2) := by decide +kernel
theorem dX13_headingOf_13 : decode cX13_headingOf 13 = .ok (.if_icmp .ge 133, 3) := by decide +kernel
theorem dX13_headingOf_16 : decode cX13_headingOf 16 = .ok (.iload 6, 2) := by decide +kernel
theorem dX13_headingOf_18 : decode cX13_headingOf 18 = .ok (.iconst 4, 1) := by decide +kernel
theorem dX13_headingOf_19 : decode cX13_headingOf 19 = .ok (.if_icmp .ge 7, 3) := by decide +kernel
theorem dX13_headingOf_22 : decode cX13_headingOf 22 = .ok (.iload_n 1, 1) := by decide +kernel
theorem dX13_headingOf_23 : decode cX13_headingOf 23 = .ok (.goto 15, 3) := by decide +kernel
theorem dX13_headingOf_26 : decode cX13_headingOf 26 = .ok (.iload 6, 2) := by decide +kernel
theorem dX13_headingOf_28 : decode cX13_headingOf 28 = .ok (.bipush 8, 2) := by decide +kernel
theorem dX13_headingOf_30 : decode cX13_headingOf 30 = .ok (.if_icmp .ge 7, 3) := by decide +kernel
theorem dX13_headingOf_33 : decode cX13_headingOf 33 = .ok (.iload_n 2, 1) := by decide +kernel
theorem dX13_headingOf_34 : decode cX13_headingOf 34 = .ok (.goto 4, 3) := by decide +kernel
theorem dX13_headingOf_37 : decode cX13_headingOf 37 = .ok (.iload_n 3, 1) := by decide +kernel
theorem dX13_headingOf_38 : decode cX13_headingOf 38 = .ok (.bipush 24, 2) := by decide +kernel
theorem dX13_headingOf_40 : decode cX13_headingOf 40 = .ok (.bipush 8, 2) := by decide +kernel
theorem dX13_headingOf_42 : decode cX13_headingOf 42 = .ok (.iload 6, 2) := by decide +kernel
theorem dX13_headingOf_44 : decode cX13_headingOf 44 = .ok (.iconst 4, 1) := by decide +kernel
theorem dX13_headingOf_45 : decode cX13_headingOf 45 = .ok (.irem, 1) := by decide +kernel
theorem dX13_headingOf_46 : decode cX13_headingOf 46 = .ok (.imul, 1) := by decide +kernel
theorem dX13_headingOf_47 : decode cX13_headingOf 47 = .ok (.isub, 1) := by decide +kernel
theorem dX13_headingOf_48 : decode cX13_headingOf 48 = .ok (.ishr, 1) := by decide +kernel
theorem dX13_headingOf_49 : decode cX13_headingOf 49 = .ok (.istore 7, 2) := by decide +kernel
theorem dX13_headingOf_51 : decode cX13_headingOf 51 = .ok (.aload_n 0, 1) := by decide +kernel
theorem dX13_headingOf_52 : decode cX13_headingOf 52 = .ok (.getfield 207, 3) := by decide +kernel
theorem dX13_headingOf_55 : decode cX13_headingOf 55 = .ok (.iload 6, 2) := by decide +kernel
theorem dX13_headingOf_57 : decode cX13_headingOf 57 = .ok (.iload 7, 2) := by decide +kernel
theorem dX13_headingOf_59 : decode cX13_headingOf 59 = .ok (.i2b, 1) := by decide +kernel
theorem dX13_headingOf_60 : decode cX13_headingOf 60 = .ok (.bastore, 1) := by decide +kernel
theorem dX13_headingOf_61 : decode cX13_headingOf 61 = .ok (.aload_n 0, 1) := by decide +kernel
theorem dX13_headingOf_62 : decode cX13_headingOf 62 = .ok (.getfield 207, 3) := by decide +kernel
theorem dX13_headingOf_65 : decode cX13_headingOf 65 = .ok (.iload 6, 2) := by decide +kernel
theorem dX13_headingOf_67 : decode cX13_headingOf 67 = .ok (.baload, 1) := by decide +kernel
theorem dX13_headingOf_68 : decode cX13_headingOf 68 = .ok (.istore 8, 2) := by decide +kernel
theorem dX13_headingOf_70 : decode cX13_headingOf 70 = .ok (.iload 8, 2) := by decide +kernel
theorem dX13_headingOf_72 : decode cX13_headingOf 72 = .ok (.ifCond .ne 9, 3) := by decide +kernel
theorem dX13_headingOf_75 : decode cX13_headingOf 75 = .ok (.iconst 1, 1) := by decide +kernel
theorem dX13_headingOf_76 : decode cX13_headingOf 76 = .ok (.istore 5, 2) := by decide +kernel
theorem dX13_headingOf_78 : decode cX13_headingOf 78 = .ok (.goto 62, 3) := by decide +kernel
theorem dX13_headingOf_81 : decode cX13_headingOf 81 = .ok (.iload 5, 2) := by decide +kernel
theorem dX13_headingOf_83 : decode cX13_headingOf 83 = .ok (.ifCond .ne 52, 3) := by decide +kernel
theorem dX13_headingOf_86 : decode cX13_headingOf 86 = .ok (.iload 8, 2) := by decide +kernel
theorem dX13_headingOf_88 : decode cX13_headingOf 88 = .ok (.bipush 32, 2) := by decide +kernel
theorem dX13_headingOf_90 : decode cX13_headingOf 90 = .ok (.if_icmp .eq 19, 3) := by decide +kernel
theorem dX13_headingOf_93 : decode cX13_headingOf 93 = .ok (.iload 8, 2) := by decide +kernel
theorem dX13_headingOf_95 : decode cX13_headingOf 95 = .ok (.invokestatic 284, 3) := by decide +kernel
theorem dX13_headingOf_98 : decode cX13_headingOf 98 = .ok (.ifCond .ne 11, 3) := by decide +kernel
theorem dX13_headingOf_101 : decode cX13_headingOf 101 = .ok (.iload 8, 2) := by decide +kernel
theorem dX13_headingOf_103 : decode cX13_headingOf 103 = .ok (.invokestatic 292, 3) := by decide +kernel
theorem dX13_headingOf_106 : decode cX13_headingOf 106 = .ok (.ifCond .eq 29, 3) := by decide +kernel
theorem dX13_headingOf_109 : decode cX13_headingOf 109 = .ok (.iload 8, 2) := by decide +kernel
theorem dX13_headingOf_111 : decode cX13_headingOf 111 = .ok (.bipush 32, 2) := by decide +kernel
theorem dX13_headingOf_113 : decode cX13_headingOf 113 = .ok (.if_icmp .ne 24, 3) := by decide +kernel
theorem dX13_headingOf_116 : decode cX13_headingOf 116 = .ok (.iload 6, 2) := by decide +kernel
theorem dX13_headingOf_118 : decode cX13_headingOf 118 = .ok (.ifCond .eq 17, 3) := by decide +kernel
theorem dX13_headingOf_121 : decode cX13_headingOf 121 = .ok (.aload_n 0, 1) := by decide +kernel
theorem dX13_headingOf_122 : decode cX13_headingOf 122 = .ok (.getfield 207, 3) := by decide +kernel
theorem dX13_headingOf_125 : decode cX13_headingOf 125 = .ok (.iload 6, 2) := by decide +kernel
theorem dX13_headingOf_127 : decode cX13_headingOf 127 = .ok (.iconst 1, 1) := by decide +kernel
theorem dX13_headingOf_128 : decode cX13_headingOf 128 = .ok (.isub, 1) := by decide +kernel
theorem dX13_headingOf_129 : decode cX13_headingOf 129 = .ok (.baload, 1) := by decide +kernel
theorem dX13_headingOf_130 : decode cX13_headingOf 130 = .ok (.bipush 32, 2) := by decide +kernel
theorem dX13_headingOf_132 : decode cX13_headingOf 132 = .ok (.if_icmp .ne 5, 3) := by decide +kernel
theorem dX13_headingOf_135 : decode cX13_headingOf 135 = .ok (.iconst 0, 1) := by decide +kernel
theorem dX13_headingOf_136 : decode cX13_headingOf 136 = .ok (.ireturn, 1) := by decide +kernel
theorem dX13_headingOf_137 : decode cX13_headingOf 137 = .ok (.iinc 4 1, 3) := by decide +kernel
theorem dX13_headingOf_140 : decode cX13_headingOf 140 = .ok (.iinc 6 1, 3) := by decide +kernel
theorem dX13_headingOf_143 : decode cX13_headingOf 143 = .ok (.goto (-134), 3) := by decide +kernel
theorem dX13_headingOf_146 : decode cX13_headingOf 146 = .ok (.iload 4, 2) := by decide +kernel
theorem dX13_headingOf_148 : decode cX13_headingOf 148 = .ok (.ifCond .le 21, 3) := by decide +kernel
theorem dX13_headingOf_151 : decode cX13_headingOf 151 = .ok (.aload_n 0, 1) := by decide +kernel
theorem dX13_headingOf_152 : decode cX13_headingOf 152 = .ok (.getfield 207, 3) := by decide +kernel
theorem dX13_headingOf_155 : decode cX13_headingOf 155 = .ok (.iload 4, 2) := by decide +kernel
theorem dX13_headingOf_157 : decode cX13_headingOf 157 = .ok (.iconst 1, 1) := by decide +kernel
theorem dX13_headingOf_158 : decode cX13_headingOf 158 = .ok (.isub, 1) := by decide +kernel
theorem dX13_headingOf_159 : decode cX13_headingOf 159 = .ok (.baload, 1) := by decide +kernel
theorem dX13_headingOf_160 : decode cX13_headingOf 160 = .ok (.bipush 32, 2) := by decide +kernel
theorem dX13_headingOf_162 : decode cX13_headingOf 162 = .ok (.if_icmp .ne 7, 3) := by decide +kernel
theorem dX13_headingOf_165 : decode cX13_headingOf 165 = .ok (.iconst 0, 1) := by decide +kernel
theorem dX13_headingOf_166 : decode cX13_headingOf 166 = .ok (.goto 5, 3) := by decide +kernel
theorem dX13_headingOf_169 : decode cX13_headingOf 169 = .ok (.iload 4, 2) := by decide +kernel
theorem dX13_headingOf_171 : decode cX13_headingOf 171 = .ok (.ireturn, 1) := by decide +kernel
theorem dX13_newEntry_0 : decode cX13_newEntry 0 = .ok (.aload_n 0, 1) := by decide +kernel
theorem dX13_newEntry_1 : decode cX13_newEntry 1 = .ok (.getfield 418, 3) := by decide +kernel
theorem dX13_newEntry_4 : decode cX13_newEntry 4 = .ok (.bipush 60, 2) := by decide +kernel
theorem dX13_newEntry_6 : decode cX13_newEntry 6 = .ok (.if_icmp .ne 5, 3) := by decide +kernel
theorem dX13_newEntry_9 : decode cX13_newEntry 9 = .ok (.iconst (-1), 1) := by decide +kernel
theorem dX13_newEntry_10 : decode cX13_newEntry 10 = .ok (.ireturn, 1) := by decide +kernel
theorem dX13_newEntry_11 : decode cX13_newEntry 11 = .ok (.iconst 0, 1) := by decide +kernel
theorem dX13_newEntry_12 : decode cX13_newEntry 12 = .ok (.istore_n 3, 1) := by decide +kernel
theorem dX13_newEntry_13 : decode cX13_newEntry 13 = .ok (.iload_n 3, 1) := by decide +kernel
theorem dX13_newEntry_14 : decode cX13_newEntry 14 = .ok (.bipush 12, 2) := by decide +kernel
theorem dX13_newEntry_16 : decode cX13_newEntry 16 = .ok (.if_icmp .ge 29, 3) := by decide +kernel
theorem dX13_newEntry_19 : decode cX13_newEntry 19 = .ok (.aload_n 0, 1) := by decide +kernel
theorem dX13_newEntry_20 : decode cX13_newEntry 20 = .ok (.getfield 84, 3) := by decide +kernel
theorem dX13_newEntry_23 : decode cX13_newEntry 23 = .ok (.bipush 12, 2) := by decide +kernel
theorem dX13_newEntry_25 : decode cX13_newEntry 25 = .ok (.aload_n 0, 1) := by decide +kernel
theorem dX13_newEntry_26 : decode cX13_newEntry 26 = .ok (.getfield 418, 3) := by decide +kernel
theorem dX13_newEntry_29 : decode cX13_newEntry 29 = .ok (.imul, 1) := by decide +kernel
theorem dX13_newEntry_30 : decode cX13_newEntry 30 = .ok (.iload_n 3, 1) := by decide +kernel
theorem dX13_newEntry_31 : decode cX13_newEntry 31 = .ok (.iadd, 1) := by decide +kernel
theorem dX13_newEntry_32 : decode cX13_newEntry 32 = .ok (.aload_n 0, 1) := by decide +kernel
theorem dX13_newEntry_33 : decode cX13_newEntry 33 = .ok (.getfield 207, 3) := by decide +kernel
theorem dX13_newEntry_36 : decode cX13_newEntry 36 = .ok (.iload_n 3, 1) := by decide +kernel
theorem dX13_newEntry_37 : decode cX13_newEntry 37 = .ok (.baload, 1) := by decide +kernel
theorem dX13_newEntry_38 : decode cX13_newEntry 38 = .ok (.bastore, 1) := by decide +kernel
theorem dX13_newEntry_39 : decode cX13_newEntry 39 = .ok (.iinc 3 1, 3) := by decide +kernel
theorem dX13_newEntry_42 : decode cX13_newEntry 42 = .ok (.goto (-29), 3) := by decide +kernel
theorem dX13_newEntry_45 : decode cX13_newEntry 45 = .ok (.aload_n 0, 1) := by decide +kernel
theorem dX13_newEntry_46 : decode cX13_newEntry 46 = .ok (.getfield 87, 3) := by decide +kernel
theorem dX13_newEntry_49 : decode cX13_newEntry 49 = .ok (.aload_n 0, 1) := by decide +kernel
theorem dX13_newEntry_50 : decode cX13_newEntry 50 = .ok (.getfield 418, 3) := by decide +kernel
theorem dX13_newEntry_53 : decode cX13_newEntry 53 = .ok (.iload_n 2, 1) := by decide +kernel
theorem dX13_newEntry_54 : decode cX13_newEntry 54 = .ok (.iastore, 1) := by decide +kernel
theorem dX13_newEntry_55 : decode cX13_newEntry 55 = .ok (.aload_n 0, 1) := by decide +kernel
theorem dX13_newEntry_56 : decode cX13_newEntry 56 = .ok (.getfield 90, 3) := by decide +kernel
theorem dX13_newEntry_59 : decode cX13_newEntry 59 = .ok (.aload_n 0, 1) := by decide +kernel
theorem dX13_newEntry_60 : decode cX13_newEntry 60 = .ok (.getfield 418, 3) := by decide +kernel
theorem dX13_newEntry_63 : decode cX13_newEntry 63 = .ok (.iload_n 1, 1) := by decide +kernel
theorem dX13_newEntry_64 : decode cX13_newEntry 64 = .ok (.iastore, 1) := by decide +kernel
theorem dX13_newEntry_65 : decode cX13_newEntry 65 = .ok (.aload_n 0, 1) := by decide +kernel
theorem dX13_newEntry_66 : decode cX13_newEntry 66 = .ok (.getfield 102, 3) := by decide +kernel
theorem dX13_newEntry_69 : decode cX13_newEntry 69 = .ok (.aload_n 0, 1) := by decide +kernel
theorem dX13_newEntry_70 : decode cX13_newEntry 70 = .ok (.getfield 418, 3) := by decide +kernel
theorem dX13_newEntry_73 : decode cX13_newEntry 73 = .ok (.iconst (-1), 1) := by decide +kernel
theorem dX13_newEntry_74 : decode cX13_newEntry 74 = .ok (.iastore, 1) := by decide +kernel
theorem dX13_newEntry_75 : decode cX13_newEntry 75 = .ok (.aload_n 0, 1) := by decide +kernel
theorem dX13_newEntry_76 : decode cX13_newEntry 76 = .ok (.getfield 105, 3) := by decide +kernel
theorem dX13_newEntry_79 : decode cX13_newEntry 79 = .ok (.aload_n 0, 1) := by decide +kernel
theorem dX13_newEntry_80 : decode cX13_newEntry 80 = .ok (.getfield 418, 3) := by decide +kernel
theorem dX13_newEntry_83 : decode cX13_newEntry 83 = .ok (.iconst (-1), 1) := by decide +kernel
theorem dX13_newEntry_84 : decode cX13_newEntry 84 = .ok (.iastore, 1) := by decide +kernel
theorem dX13_newEntry_85 : decode cX13_newEntry 85 = .ok (.aload_n 0, 1) := by decide +kernel
theorem dX13_newEntry_86 : decode cX13_newEntry 86 = .ok (.getfield 114, 3) := by decide +kernel
theorem dX13_newEntry_89 : decode cX13_newEntry 89 = .ok (.aload_n 0, 1) := by decide +kernel
theorem dX13_newEntry_90 : decode cX13_newEntry 90 = .ok (.getfield 418, 3) := by decide +kernel
theorem dX13_newEntry_93 : decode cX13_newEntry 93 = .ok (.iconst (-1), 1) := by decide +kernel
theorem dX13_newEntry_94 : decode cX13_newEntry 94 = .ok (.iastore, 1) := by decide +kernel
theorem dX13_newEntry_95 : decode cX13_newEntry 95 = .ok (.aload_n 0, 1) := by decide +kernel
theorem dX13_newEntry_96 : decode cX13_newEntry 96 = .ok (.getfield 117, 3) := by decide +kernel
theorem dX13_newEntry_99 : decode cX13_newEntry 99 = .ok (.aload_n 0, 1) := by decide +kernel
theorem dX13_newEntry_100 : decode cX13_newEntry 100 = .ok (.getfield 418, 3) := by decide +kernel
theorem dX13_newEntry_103 : decode cX13_newEntry 103 = .ok (.iconst (-1), 1) := by decide +kernel
theorem dX13_newEntry_104 : decode cX13_newEntry 104 = .ok (.iastore, 1) := by decide +kernel
theorem dX13_newEntry_105 : decode cX13_newEntry 105 = .ok (.aload_n 0, 1) := by decide +kernel
theorem dX13_newEntry_106 : decode cX13_newEntry 106 = .ok (.dup, 1) := by decide +kernel
theorem dX13_newEntry_107 : decode cX13_newEntry 107 = .ok (.getfield 418, 3) := by decide +kernel
theorem dX13_newEntry_110 : decode cX13_newEntry 110 = .ok (.iconst 1, 1) := by decide +kernel
theorem dX13_newEntry_111 : decode cX13_newEntry 111 = .ok (.iadd, 1) := by decide +kernel
theorem dX13_newEntry_112 : decode cX13_newEntry 112 = .ok (.putfield 418, 3) := by decide +kernel
theorem dX13_newEntry_115 : decode cX13_newEntry 115 = .ok (.aload_n 0, 1) := by decide +kernel
theorem dX13_newEntry_116 : decode cX13_newEntry 116 = .ok (.getfield 418, 3) := by decide +kernel
theorem dX13_newEntry_119 : decode cX13_newEntry 119 = .ok (.iconst 1, 1) := by decide +kernel
theorem dX13_newEntry_120 : decode cX13_newEntry 120 = .ok (.isub, 1) := by decide +kernel
theorem dX13_newEntry_121 : decode cX13_newEntry 121 = .ok (.ireturn, 1) := by decide +kernel
theorem dX13_article_0 : decode cX13_article 0 = .ok (.aload_n 0, 1) := by decide +kernel
theorem dX13_article_1 : decode cX13_article 1 = .ok (.iload_n 1, 1) := by decide +kernel
theorem dX13_article_2 : decode cX13_article 2 = .ok (.iload_n 2, 1) := by decide +kernel
theorem dX13_article_3 : decode cX13_article 3 = .ok (.iload_n 3, 1) := by decide +kernel
theorem dX13_article_4 : decode cX13_article 4 = .ok (.invokevirtual 424, 3) := by decide +kernel
theorem dX13_article_7 : decode cX13_article 7 = .ok (.istore 5, 2) := by decide +kernel
theorem dX13_article_9 : decode cX13_article 9 = .ok (.iload 5, 2) := by decide +kernel
theorem dX13_article_11 : decode cX13_article 11 = .ok (.ifCond .eq 48, 3) := by decide +kernel
theorem dX13_article_14 : decode cX13_article 14 = .ok (.iload 4, 2) := by decide +kernel
theorem dX13_article_16 : decode cX13_article 16 = .ok (.ifCond .lt 43, 3) := by decide +kernel
theorem dX13_article_19 : decode cX13_article 19 = .ok (.iload 4, 2) := by decide +kernel
theorem dX13_article_21 : decode cX13_article 21 = .ok (.sipush 10000, 3) := by decide +kernel
theorem dX13_article_24 : decode cX13_article 24 = .ok (.idiv, 1) := by decide +kernel
theorem dX13_article_25 : decode cX13_article 25 = .ok (.iconst 2, 1) := by decide +kernel
theorem dX13_article_26 : decode cX13_article 26 = .ok (.if_icmp .gt 33, 3) := by decide +kernel
theorem dX13_article_29 : decode cX13_article 29 = .ok (.iload 4, 2) := by decide +kernel
theorem dX13_article_31 : decode cX13_article 31 = .ok (.sipush 1000, 3) := by decide +kernel
theorem dX13_article_34 : decode cX13_article 34 = .ok (.idiv, 1) := by decide +kernel
theorem dX13_article_35 : decode cX13_article 35 = .ok (.bipush 10, 2) := by decide +kernel
theorem dX13_article_37 : decode cX13_article 37 = .ok (.irem, 1) := by decide +kernel
theorem dX13_article_38 : decode cX13_article 38 = .ok (.bipush 8, 2) := by decide +kernel
theorem dX13_article_40 : decode cX13_article 40 = .ok (.if_icmp .ge 19, 3) := by decide +kernel
theorem dX13_article_43 : decode cX13_article 43 = .ok (.iload 4, 2) := by decide +kernel
theorem dX13_article_45 : decode cX13_article 45 = .ok (.sipush 1000, 3) := by decide +kernel
theorem dX13_article_48 : decode cX13_article 48 = .ok (.irem, 1) := by decide +kernel
theorem dX13_article_49 : decode cX13_article 49 = .ok (.iconst 1, 1) := by decide +kernel
theorem dX13_article_50 : decode cX13_article 50 = .ok (.sipush 200, 3) := by decide +kernel
theorem dX13_article_53 : decode cX13_article 53 = .ok (.invokestatic 256, 3) := by decide +kernel
theorem dX13_article_56 : decode cX13_article 56 = .ok (.ifCond .ne 5, 3) := by decide +kernel
theorem dX13_article_59 : decode cX13_article 59 = .ok (.iconst (-1), 1) := by decide +kernel
theorem dX13_article_60 : decode cX13_article 60 = .ok (.ireturn, 1) := by decide +kernel
theorem dX13_article_61 : decode cX13_article 61 = .ok (.aload_n 0, 1) := by decide +kernel
theorem dX13_article_62 : decode cX13_article 62 = .ok (.iconst 0, 1) := by decide +kernel
theorem dX13_article_63 : decode cX13_article 63 = .ok (.iload 5, 2) := by decide +kernel
theorem dX13_article_65 : decode cX13_article 65 = .ok (.invokevirtual 427, 3) := by decide +kernel
theorem dX13_article_68 : decode cX13_article 68 = .ok (.istore 6, 2) := by decide +kernel
theorem dX13_article_70 : decode cX13_article 70 = .ok (.iload 6, 2) := by decide +kernel
theorem dX13_article_72 : decode cX13_article 72 = .ok (.iconst (-1), 1) := by decide +kernel
theorem dX13_article_73 : decode cX13_article 73 = .ok (.if_icmp .ne 5, 3) := by decide +kernel
theorem dX13_article_76 : decode cX13_article 76 = .ok (.iconst (-1), 1) := by decide +kernel
theorem dX13_article_77 : decode cX13_article 77 = .ok (.ireturn, 1) := by decide +kernel
theorem dX13_article_78 : decode cX13_article 78 = .ok (.aload_n 0, 1) := by decide +kernel
theorem dX13_article_79 : decode cX13_article 79 = .ok (.getfield 93, 3) := by decide +kernel
theorem dX13_article_82 : decode cX13_article 82 = .ok (.iload 6, 2) := by decide +kernel
theorem dX13_article_84 : decode cX13_article 84 = .ok (.iload 4, 2) := by decide +kernel
theorem dX13_article_86 : decode cX13_article 86 = .ok (.sipush 10000, 3) := by decide +kernel
theorem dX13_article_89 : decode cX13_article 89 = .ok (.idiv, 1) := by decide +kernel
theorem dX13_article_90 : decode cX13_article 90 = .ok (.iastore, 1) := by decide +kernel
theorem dX13_article_91 : decode cX13_article 91 = .ok (.aload_n 0, 1) := by decide +kernel
theorem dX13_article_92 : decode cX13_article 92 = .ok (.getfield 96, 3) := by decide +kernel
theorem dX13_article_95 : decode cX13_article 95 = .ok (.iload 6, 2) := by decide +kernel
theorem dX13_article_97 : decode cX13_article 97 = .ok (.iload 4, 2) := by decide +kernel
theorem dX13_article_99 : decode cX13_article 99 = .ok (.sipush 1000, 3) := by decide +kernel
theorem dX13_article_102 : decode cX13_article 102 = .ok (.idiv, 1) := by decide +kernel
theorem dX13_article_103 : decode cX13_article 103 = .ok (.bipush 10, 2) := by decide +kernel
theorem dX13_article_105 : decode cX13_article 105 = .ok (.irem, 1) := by decide +kernel
theorem dX13_article_106 : decode cX13_article 106 = .ok (.iastore, 1) := by decide +kernel
theorem dX13_article_107 : decode cX13_article 107 = .ok (.aload_n 0, 1) := by decide +kernel
theorem dX13_article_108 : decode cX13_article 108 = .ok (.getfield 99, 3) := by decide +kernel
theorem dX13_article_111 : decode cX13_article 111 = .ok (.iload 6, 2) := by decide +kernel
theorem dX13_article_113 : decode cX13_article 113 = .ok (.iload 4, 2) := by decide +kernel
theorem dX13_article_115 : decode cX13_article 115 = .ok (.sipush 1000, 3) := by decide +kernel
theorem dX13_article_118 : decode cX13_article 118 = .ok (.irem, 1) := by decide +kernel
theorem dX13_article_119 : decode cX13_article 119 = .ok (.iastore, 1) := by decide +kernel
theorem dX13_article_120 : decode cX13_article 120 = .ok (.iload 6, 2) := by decide +kernel
theorem dX13_article_122 : decode cX13_article 122 = .ok (.ireturn, 1) := by decide +kernel
theorem dX13_pointer_0 : decode cX13_pointer 0 = .ok (.aload_n 0, 1) := by decide +kernel
theorem dX13_pointer_1 : decode cX13_pointer 1 = .ok (.iload_n 1, 1) := by decide +kernel
theorem dX13_pointer_2 : decode cX13_pointer 2 = .ok (.iload_n 2, 1) := by decide +kernel
theorem dX13_pointer_3 : decode cX13_pointer 3 = .ok (.iload_n 3, 1) := by decide +kernel
theorem dX13_pointer_4 : decode cX13_pointer 4 = .ok (.invokevirtual 424, 3) := by decide +kernel
theorem dX13_pointer_7 : decode cX13_pointer 7 = .ok (.istore 5, 2) := by decide +kernel
theorem dX13_pointer_9 : decode cX13_pointer 9 = .ok (.iload 5, 2) := by decide +kernel
theorem dX13_pointer_11 : decode cX13_pointer 11 = .ok (.ifCond .eq 12, 3) := by decide +kernel
theorem dX13_pointer_14 : decode cX13_pointer 14 = .ok (.aload_n 0, 1) := by decide +kernel
theorem dX13_pointer_15 : decode cX13_pointer 15 = .ok (.iload 4, 2) := by decide +kernel
theorem dX13_pointer_17 : decode cX13_pointer 17 = .ok (.invokevirtual 421, 3) := by decide +kernel
theorem dX13_pointer_20 : decode cX13_pointer 20 = .ok (.ifCond .ne 5, 3) := by decide +kernel
theorem dX13_pointer_23 : decode cX13_pointer 23 = .ok (.iconst (-1), 1) := by decide +kernel
theorem dX13_pointer_24 : decode cX13_pointer 24 = .ok (.ireturn, 1) := by decide +kernel
theorem dX13_pointer_25 : decode cX13_pointer 25 = .ok (.aload_n 0, 1) := by decide +kernel
theorem dX13_pointer_26 : decode cX13_pointer 26 = .ok (.iconst 1, 1) := by decide +kernel
theorem dX13_pointer_27 : decode cX13_pointer 27 = .ok (.iload 5, 2) := by decide +kernel
theorem dX13_pointer_29 : decode cX13_pointer 29 = .ok (.invokevirtual 427, 3) := by decide +kernel
theorem dX13_pointer_32 : decode cX13_pointer 32 = .ok (.istore 6, 2) := by decide +kernel
theorem dX13_pointer_34 : decode cX13_pointer 34 = .ok (.iload 6, 2) := by decide +kernel
theorem dX13_pointer_36 : decode cX13_pointer 36 = .ok (.iconst (-1), 1) := by decide +kernel
theorem dX13_pointer_37 : decode cX13_pointer 37 = .ok (.if_icmp .eq 12, 3) := by decide +kernel
theorem dX13_pointer_40 : decode cX13_pointer 40 = .ok (.aload_n 0, 1) := by decide +kernel
theorem dX13_pointer_41 : decode cX13_pointer 41 = .ok (.getfield 102, 3) := by decide +kernel
theorem dX13_pointer_44 : decode cX13_pointer 44 = .ok (.iload 6, 2) := by decide +kernel
theorem dX13_pointer_46 : decode cX13_pointer 46 = .ok (.iload 4, 2) := by decide +kernel
theorem dX13_pointer_48 : decode cX13_pointer 48 = .ok (.iastore, 1) := by decide +kernel
theorem dX13_pointer_49 : decode cX13_pointer 49 = .ok (.iload 6, 2) := by decide +kernel
theorem dX13_pointer_51 : decode cX13_pointer 51 = .ok (.ireturn, 1) := by decide +kernel
theorem dX13_plate_0 : decode cX13_plate 0 = .ok (.aload_n 0, 1) := by decide +kernel
theorem dX13_plate_1 : decode cX13_plate 1 = .ok (.iload_n 1, 1) := by decide +kernel
theorem dX13_plate_2 : decode cX13_plate 2 = .ok (.iload_n 2, 1) := by decide +kernel
theorem dX13_plate_3 : decode cX13_plate 3 = .ok (.iload_n 3, 1) := by decide +kernel
theorem dX13_plate_4 : decode cX13_plate 4 = .ok (.invokevirtual 424, 3) := by decide +kernel
theorem dX13_plate_7 : decode cX13_plate 7 = .ok (.istore 6, 2) := by decide +kernel
theorem dX13_plate_9 : decode cX13_plate 9 = .ok (.iload 6, 2) := by decide +kernel
theorem dX13_plate_11 : decode cX13_plate 11 = .ok (.ifCond .eq 18, 3) := by decide +kernel
theorem dX13_plate_14 : decode cX13_plate 14 = .ok (.iload 4, 2) := by decide +kernel
theorem dX13_plate_16 : decode cX13_plate 16 = .ok (.ifCond .lt 13, 3) := by decide +kernel
theorem dX13_plate_19 : decode cX13_plate 19 = .ok (.iload 5, 2) := by decide +kernel
theorem dX13_plate_21 : decode cX13_plate 21 = .ok (.iconst 1, 1) := by decide +kernel
theorem dX13_plate_22 : decode cX13_plate 22 = .ok (.iconst 4, 1) := by decide +kernel
theorem dX13_plate_23 : decode cX13_plate 23 = .ok (.invokestatic 256, 3) := by decide +kernel
theorem dX13_plate_26 : decode cX13_plate 26 = .ok (.ifCond .ne 5, 3) := by decide +kernel
theorem dX13_plate_29 : decode cX13_plate 29 = .ok (.iconst (-1), 1) := by decide +kernel
theorem dX13_plate_30 : decode cX13_plate 30 = .ok (.ireturn, 1) := by decide +kernel
theorem dX13_plate_31 : decode cX13_plate 31 = .ok (.iload 4, 2) := by decide +kernel
theorem dX13_plate_33 : decode cX13_plate 33 = .ok (.istore 7, 2) := by decide +kernel
theorem dX13_plate_35 : decode cX13_plate 35 = .ok (.iconst 0, 1) := by decide +kernel
theorem dX13_plate_36 : decode cX13_plate 36 = .ok (.istore 8, 2) := by decide +kernel
theorem dX13_plate_38 : decode cX13_plate 38 = .ok (.iload 8, 2) := by decide +kernel
theorem dX13_plate_40 : decode cX13_plate 40 = .ok (.iload 5, 2) := by decide +kernel
theorem dX13_plate_42 : decode cX13_plate 42 = .ok (.if_icmp .ge 78, 3) := by decide +kernel
theorem dX13_plate_45 : decode cX13_plate 45 = .ok (.aload_n 0, 1) := by decide +kernel
theorem dX13_plate_46 : decode cX13_plate 46 = .ok (.iload 7, 2) := by decide +kernel
theorem dX13_plate_48 : decode cX13_plate 48 = .ok (.bipush 100, 2) := by decide +kernel
theorem dX13_plate_50 : decode cX13_plate 50 = .ok (.irem, 1) := by decide +kernel
theorem dX13_plate_51 : decode cX13_plate 51 = .ok (.invokevirtual 421, 3) := by decide +kernel
theorem dX13_plate_54 : decode cX13_plate 54 = .ok (.ifCond .ne 5, 3) := by decide +kernel
theorem dX13_plate_57 : decode cX13_plate 57 = .ok (.iconst (-1), 1) := by decide +kernel
theorem dX13_plate_58 : decode cX13_plate 58 = .ok (.ireturn, 1) := by decide +kernel
theorem dX13_plate_59 : decode cX13_plate 59 = .ok (.iload 7, 2) := by decide +kernel
theorem dX13_plate_61 : decode cX13_plate 61 = .ok (.bipush 100, 2) := by decide +kernel
theorem dX13_plate_63 : decode cX13_plate 63 = .ok (.idiv, 1) := by decide +kernel
theorem dX13_plate_64 : decode cX13_plate 64 = .ok (.istore 9, 2) := by decide +kernel
theorem dX13_plate_66 : decode cX13_plate 66 = .ok (.iload 8, 2) := by decide +kernel
theorem dX13_plate_68 : decode cX13_plate 68 = .ok (.iconst 1, 1) := by decide +kernel
theorem dX13_plate_69 : decode cX13_plate 69 = .ok (.iadd, 1) := by decide +kernel
theorem dX13_plate_70 : decode cX13_plate 70 = .ok (.istore 10, 2) := by decide +kernel
theorem dX13_plate_72 : decode cX13_plate 72 = .ok (.iload 10, 2) := by decide +kernel
theorem dX13_plate_74 : decode cX13_plate 74 = .ok (.iload 5, 2) := by decide +kernel
theorem dX13_plate_76 : decode cX13_plate 76 = .ok (.if_icmp .ge 31, 3) := by decide +kernel
theorem dX13_plate_79 : decode cX13_plate 79 = .ok (.iload 9, 2) := by decide +kernel
theorem dX13_plate_81 : decode cX13_plate 81 = .ok (.bipush 100, 2) := by decide +kernel
theorem dX13_plate_83 : decode cX13_plate 83 = .ok (.irem, 1) := by decide +kernel
theorem dX13_plate_84 : decode cX13_plate 84 = .ok (.iload 7, 2) := by decide +kernel
theorem dX13_plate_86 : decode cX13_plate 86 = .ok (.bipush 100, 2) := by decide +kernel
theorem dX13_plate_88 : decode cX13_plate 88 = .ok (.irem, 1) := by decide +kernel
theorem dX13_plate_89 : decode cX13_plate 89 = .ok (.if_icmp .ne 5, 3) := by decide +kernel
theorem dX13_plate_92 : decode cX13_plate 92 = .ok (.iconst (-1), 1) := by decide +kernel
theorem dX13_plate_93 : decode cX13_plate 93 = .ok (.ireturn, 1) := by decide +kernel
theorem dX13_plate_94 : decode cX13_plate 94 = .ok (.iload 9, 2) := by decide +kernel
theorem dX13_plate_96 : decode cX13_plate 96 = .ok (.bipush 100, 2) := by decide +kernel
theorem dX13_plate_98 : decode cX13_plate 98 = .ok (.idiv, 1) := by decide +kernel
theorem dX13_plate_99 : decode cX13_plate 99 = .ok (.istore 9, 2) := by decide +kernel
theorem dX13_plate_101 : decode cX13_plate 101 = .ok (.iinc 10 1, 3) := by decide +kernel
theorem dX13_plate_104 : decode cX13_plate 104 = .ok (.goto (-32), 3) := by decide +kernel
theorem dX13_plate_107 : decode cX13_plate 107 = .ok (.iload 7, 2) := by decide +kernel
theorem dX13_plate_109 : decode cX13_plate 109 = .ok (.bipush 100, 2) := by decide +kernel
theorem dX13_plate_111 : decode cX13_plate 111 = .ok (.idiv, 1) := by decide +kernel
theorem dX13_plate_112 : decode cX13_plate 112 = .ok (.istore 7, 2) := by decide +kernel
theorem dX13_plate_114 : decode cX13_plate 114 = .ok (.iinc 8 1, 3) := by decide +kernel
theorem dX13_plate_117 : decode cX13_plate 117 = .ok (.goto (-79), 3) := by decide +kernel
theorem dX13_plate_120 : decode cX13_plate 120 = .ok (.iload 7, 2) := by decide +kernel
theorem dX13_plate_122 : decode cX13_plate 122 = .ok (.ifCond .le 7, 3) := by decide +kernel
theorem dX13_plate_125 : decode cX13_plate 125 = .ok (.iconst (-1), 1) := by decide +kernel
theorem dX13_plate_126 : decode cX13_plate 126 = .ok (.goto 10, 3) := by decide +kernel
theorem dX13_plate_129 : decode cX13_plate 129 = .ok (.aload_n 0, 1) := by decide +kernel
theorem dX13_plate_130 : decode cX13_plate 130 = .ok (.iconst 2, 1) := by decide +kernel
theorem dX13_plate_131 : decode cX13_plate 131 = .ok (.iload 6, 2) := by decide +kernel
theorem dX13_plate_133 : decode cX13_plate 133 = .ok (.invokevirtual 427, 3) := by decide +kernel
theorem dX13_plate_136 : decode cX13_plate 136 = .ok (.ireturn, 1) := by decide +kernel
theorem dX13_points_0 : decode cX13_points 0 = .ok (.aload_n 0, 1) := by decide +kernel
theorem dX13_points_1 : decode cX13_points 1 = .ok (.iload_n 1, 1) := by decide +kernel
theorem dX13_points_2 : decode cX13_points 2 = .ok (.invokevirtual 421, 3) := by decide +kernel
theorem dX13_points_5 : decode cX13_points 5 = .ok (.ifCond .eq 31, 3) := by decide +kernel
theorem dX13_points_36 : decode cX13_points 36 = .ok (.iconst 0, 1) := by decide +kernel
theorem dX13_points_37 : decode cX13_points 37 = .ok (.ireturn, 1) := by decide +kernel
theorem dX13_volume_0 : decode cX13_volume 0 = .ok (.aload_n 0, 1) := by decide +kernel
theorem dX13_volume_1 : decode cX13_volume 1 = .ok (.iload_n 1, 1) := by decide +kernel
theorem dX13_volume_2 : decode cX13_volume 2 = .ok (.invokevirtual 421, 3) := by decide +kernel
theorem dX13_volume_5 : decode cX13_volume 5 = .ok (.ifCond .eq 11, 3) := by decide +kernel
theorem dX13_volume_16 : decode cX13_volume 16 = .ok (.iconst (-1), 1) := by decide +kernel
theorem dX13_volume_17 : decode cX13_volume 17 = .ok (.ireturn, 1) := by decide +kernel
theorem dX13_canGo_0 : decode cX13_canGo 0 = .ok (.aload_n 0, 1) := by decide +kernel
theorem dX13_canGo_1 : decode cX13_canGo 1 = .ok (.iload_n 1, 1) := by decide +kernel
theorem dX13_canGo_2 : decode cX13_canGo 2 = .ok (.invokevirtual 421, 3) := by decide +kernel
theorem dX13_canGo_5 : decode cX13_canGo 5 = .ok (.ifCond .eq 36, 3) := by decide +kernel
theorem dX13_canGo_41 : decode cX13_canGo 41 = .ok (.iconst 0, 1) := by decide +kernel
theorem dX13_canGo_42 : decode cX13_canGo 42 = .ok (.ireturn, 1) := by decide +kernel
theorem dX13_strike_0 : decode cX13_strike 0 = .ok (.aload_n 0, 1) := by decide +kernel
theorem dX13_strike_1 : decode cX13_strike 1 = .ok (.iload_n 1, 1) := by decide +kernel
theorem dX13_strike_2 : decode cX13_strike 2 = .ok (.invokevirtual 436, 3) := by decide +kernel
theorem dX13_strike_5 : decode cX13_strike 5 = .ok (.ifCond .ne 5, 3) := by decide +kernel
theorem dX13_strike_8 : decode cX13_strike 8 = .ok (.iconst 0, 1) := by decide +kernel
theorem dX13_strike_9 : decode cX13_strike 9 = .ok (.ireturn, 1) := by decide +kernel
theorem dX13_later_0 : decode cX13_later 0 = .ok (.aload_n 0, 1) := by decide +kernel
theorem dX13_later_1 : decode cX13_later 1 = .ok (.iload_n 1, 1) := by decide +kernel
theorem dX13_later_2 : decode cX13_later 2 = .ok (.invokevirtual 436, 3) := by decide +kernel
theorem dX13_later_5 : decode cX13_later 5 = .ok (.ifCond .ne 5, 3) := by decide +kernel
theorem dX13_later_8 : decode cX13_later 8 = .ok (.iconst 0, 1) := by decide +kernel
theorem dX13_later_9 : decode cX13_later 9 = .ok (.ireturn, 1) := by decide +kernel
theorem dX13_orders_0 : decode cX13_orders 0 = .ok (.aload_n 0, 1) := by decide +kernel
theorem dX13_orders_1 : decode cX13_orders 1 = .ok (.getfield 68, 3) := by decide +kernel
theorem dX13_orders_4 : decode cX13_orders 4 = .ok (.iload_n 1, 1) := by decide +kernel
theorem dX13_orders_5 : decode cX13_orders 5 = .ok (.baload, 1) := by decide +kernel
theorem dX13_orders_6 : decode cX13_orders 6 = .ok (.ifCond .eq 45, 3) := by decide +kernel
theorem dX13_orders_51 : decode cX13_orders 51 = .ok (.iconst 0, 1) := by decide +kernel
theorem dX13_orders_52 : decode cX13_orders 52 = .ok (.istore_n 2, 1) := by decide +kernel
theorem dX13_orders_53 : decode cX13_orders 53 = .ok (.iconst 0, 1) := by decide +kernel
theorem dX13_orders_54 : decode cX13_orders 54 = .ok (.istore_n 3, 1) := by decide +kernel
theorem dX13_orders_55 : decode cX13_orders 55 = .ok (.iload_n 3, 1) := by decide +kernel
theorem dX13_orders_56 : decode cX13_orders 56 = .ok (.aload_n 0, 1) := by decide +kernel
theorem dX13_orders_57 : decode cX13_orders 57 = .ok (.getfield 418, 3) := by decide +kernel
theorem dX13_orders_60 : decode cX13_orders 60 = .ok (.if_icmp .ge 81, 3) := by decide +kernel
theorem dX13_orders_141 : decode cX13_orders 141 = .ok (.iload_n 2, 1) := by decide +kernel
theorem dX13_orders_142 : decode cX13_orders 142 = .ok (.ireturn, 1) := by decide +kernel
theorem dX13_at_0 : decode cX13_at 0 = .ok (.iload_n 1, 1) := by decide +kernel
theorem dX13_at_1 : decode cX13_at 1 = .ok (.invokestatic 377, 3) := by decide +kernel
theorem dX13_at_4 : decode cX13_at 4 = .ok (.ifCond .eq 27, 3) := by decide +kernel
theorem dX13_at_7 : decode cX13_at 7 = .ok (.iload_n 2, 1) := by decide +kernel
theorem dX13_at_8 : decode cX13_at 8 = .ok (.iconst 0, 1) := by decide +kernel
theorem dX13_at_9 : decode cX13_at 9 = .ok (.aload_n 0, 1) := by decide +kernel
theorem dX13_at_10 : decode cX13_at 10 = .ok (.iload_n 1, 1) := by decide +kernel
theorem dX13_at_11 : decode cX13_at 11 = .ok (.invokevirtual 442, 3) := by decide +kernel
theorem dX13_at_14 : decode cX13_at 14 = .ok (.iconst 1, 1) := by decide +kernel
theorem dX13_at_15 : decode cX13_at 15 = .ok (.isub, 1) := by decide +kernel
theorem dX13_at_16 : decode cX13_at 16 = .ok (.invokestatic 256, 3) := by decide +kernel
theorem dX13_at_19 : decode cX13_at 19 = .ok (.ifCond .eq 12, 3) := by decide +kernel
theorem dX13_at_31 : decode cX13_at 31 = .ok (.iconst (-1), 1) := by decide +kernel
theorem dX13_at_32 : decode cX13_at 32 = .ok (.ireturn, 1) := by decide +kernel
theorem dX13_why_0 : decode cX13_why 0 = .ok (.aload_n 0, 1) := by decide +kernel
theorem dX13_why_1 : decode cX13_why 1 = .ok (.iload_n 1, 1) := by decide +kernel
theorem dX13_why_2 : decode cX13_why 2 = .ok (.invokevirtual 421, 3) := by decide +kernel
theorem dX13_why_5 : decode cX13_why 5 = .ok (.ifCond .eq 16, 3) := by decide +kernel
theorem dX13_why_21 : decode cX13_why 21 = .ok (.iconst (-1), 1) := by decide +kernel
theorem dX13_why_22 : decode cX13_why 22 = .ok (.ireturn, 1) := by decide +kernel
theorem dX13_isHand_0 : decode cX13_isHand 0 = .ok (.iload_n 1, 1) := by decide +kernel
theorem dX13_isHand_1 : decode cX13_isHand 1 = .ok (.iconst 0, 1) := by decide +kernel
theorem dX13_isHand_2 : decode cX13_isHand 2 = .ok (.aload_n 0, 1) := by decide +kernel
theorem dX13_isHand_3 : decode cX13_isHand 3 = .ok (.getfield 445, 3) := by decide +kernel
theorem dX13_isHand_6 : decode cX13_isHand 6 = .ok (.iconst 1, 1) := by decide +kernel
theorem dX13_isHand_7 : decode cX13_isHand 7 = .ok (.isub, 1) := by decide +kernel
theorem dX13_isHand_8 : decode cX13_isHand 8 = .ok (.invokestatic 256, 3) := by decide +kernel
theorem dX13_isHand_11 : decode cX13_isHand 11 = .ok (.ireturn, 1) := by decide +kernel
theorem dX13_hand_0 : decode cX13_hand 0 = .ok (.iload_n 1, 1) := by decide +kernel
theorem dX13_hand_1 : decode cX13_hand 1 = .ok (.iconst 1, 1) := by decide +kernel
theorem dX13_hand_2 : decode cX13_hand 2 = .ok (.sipush 255, 3) := by decide +kernel
theorem dX13_hand_5 : decode cX13_hand 5 = .ok (.invokestatic 256, 3) := by decide +kernel
theorem dX13_hand_8 : decode cX13_hand 8 = .ok (.ifCond .eq 33, 3) := by decide +kernel
theorem dX13_hand_11 : decode cX13_hand 11 = .ok (.iload_n 2, 1) := by decide +kernel
theorem dX13_hand_12 : decode cX13_hand 12 = .ok (.iconst 1, 1) := by decide +kernel
theorem dX13_hand_13 : decode cX13_hand 13 = .ok (.bipush 20, 2) := by decide +kernel
theorem dX13_hand_15 : decode cX13_hand 15 = .ok (.invokestatic 256, 3) := by decide +kernel
theorem dX13_hand_18 : decode cX13_hand 18 = .ok (.ifCond .eq 23, 3) := by decide +kernel
theorem dX13_hand_21 : decode cX13_hand 21 = .ok (.iload_n 3, 1) := by decide +kernel
theorem dX13_hand_22 : decode cX13_hand 22 = .ok (.ldc_w 448, 3) := by decide +kernel
theorem dX13_hand_25 : decode cX13_hand 25 = .ok (.iconst 0, 1) := by decide +kernel
theorem dX13_hand_26 : decode cX13_hand 26 = .ok (.invokestatic 256, 3) := by decide +kernel
theorem dX13_hand_29 : decode cX13_hand 29 = .ok (.ifCond .eq 12, 3) := by decide +kernel
theorem dX13_hand_32 : decode cX13_hand 32 = .ok (.aload_n 0, 1) := by decide +kernel
theorem dX13_hand_33 : decode cX13_hand 33 = .ok (.getfield 445, 3) := by decide +kernel
theorem dX13_hand_36 : decode cX13_hand 36 = .ok (.bipush 12, 2) := by decide +kernel
theorem dX13_hand_38 : decode cX13_hand 38 = .ok (.if_icmp .ne 5, 3) := by decide +kernel
theorem dX13_hand_41 : decode cX13_hand 41 = .ok (.iconst (-1), 1) := by decide +kernel
theorem dX13_hand_42 : decode cX13_hand 42 = .ok (.ireturn, 1) := by decide +kernel
theorem dX13_hand_43 : decode cX13_hand 43 = .ok (.aload_n 0, 1) := by decide +kernel
theorem dX13_hand_44 : decode cX13_hand 44 = .ok (.getfield 120, 3) := by decide +kernel
theorem dX13_hand_47 : decode cX13_hand 47 = .ok (.aload_n 0, 1) := by decide +kernel
theorem dX13_hand_48 : decode cX13_hand 48 = .ok (.getfield 445, 3) := by decide +kernel
theorem dX13_hand_51 : decode cX13_hand 51 = .ok (.iload_n 1, 1) := by decide +kernel
theorem dX13_hand_52 : decode cX13_hand 52 = .ok (.iastore, 1) := by decide +kernel
theorem dX13_hand_53 : decode cX13_hand 53 = .ok (.aload_n 0, 1) := by decide +kernel
theorem dX13_hand_54 : decode cX13_hand 54 = .ok (.getfield 123, 3) := by decide +kernel
theorem dX13_hand_57 : decode cX13_hand 57 = .ok (.aload_n 0, 1) := by decide +kernel
theorem dX13_hand_58 : decode cX13_hand 58 = .ok (.getfield 445, 3) := by decide +kernel
theorem dX13_hand_61 : decode cX13_hand 61 = .ok (.iload_n 2, 1) := by decide +kernel
theorem dX13_hand_62 : decode cX13_hand 62 = .ok (.iastore, 1) := by decide +kernel
theorem dX13_hand_63 : decode cX13_hand 63 = .ok (.aload_n 0, 1) := by decide +kernel
theorem dX13_hand_64 : decode cX13_hand 64 = .ok (.getfield 126, 3) := by decide +kernel
theorem dX13_hand_67 : decode cX13_hand 67 = .ok (.aload_n 0, 1) := by decide +kernel
theorem dX13_hand_68 : decode cX13_hand 68 = .ok (.getfield 445, 3) := by decide +kernel
theorem dX13_hand_71 : decode cX13_hand 71 = .ok (.iload_n 3, 1) := by decide +kernel
theorem dX13_hand_72 : decode cX13_hand 72 = .ok (.iastore, 1) := by decide +kernel
theorem dX13_hand_73 : decode cX13_hand 73 = .ok (.aload_n 0, 1) := by decide +kernel
theorem dX13_hand_74 : decode cX13_hand 74 = .ok (.dup, 1) := by decide +kernel
theorem dX13_hand_75 : decode cX13_hand 75 = .ok (.getfield 445, 3) := by decide +kernel
theorem dX13_hand_78 : decode cX13_hand 78 = .ok (.iconst 1, 1) := by decide +kernel
theorem dX13_hand_79 : decode cX13_hand 79 = .ok (.iadd, 1) := by decide +kernel
theorem dX13_hand_80 : decode cX13_hand 80 = .ok (.putfield 445, 3) := by decide +kernel
theorem dX13_hand_83 : decode cX13_hand 83 = .ok (.aload_n 0, 1) := by decide +kernel
theorem dX13_hand_84 : decode cX13_hand 84 = .ok (.getfield 445, 3) := by decide +kernel
theorem dX13_hand_87 : decode cX13_hand 87 = .ok (.iconst 1, 1) := by decide +kernel
theorem dX13_hand_88 : decode cX13_hand 88 = .ok (.isub, 1) := by decide +kernel
theorem dX13_hand_89 : decode cX13_hand 89 = .ok (.ireturn, 1) := by decide +kernel
theorem dX13_enemies_0 : decode cX13_enemies 0 = .ok (.aload_n 0, 1) := by decide +kernel
theorem dX13_enemies_1 : decode cX13_enemies 1 = .ok (.iload_n 1, 1) := by decide +kernel
theorem dX13_enemies_2 : decode cX13_enemies 2 = .ok (.invokevirtual 449, 3) := by decide +kernel
theorem dX13_enemies_5 : decode cX13_enemies 5 = .ok (.ifCond .eq 30, 3) := by decide +kernel
theorem dX13_enemies_35 : decode cX13_enemies 35 = .ok (.iconst 0, 1) := by decide +kernel
theorem dX13_enemies_36 : decode cX13_enemies 36 = .ok (.ireturn, 1) := by decide +kernel
theorem dX13_mayBeGiven_0 : decode cX13_mayBeGiven 0 = .ok (.aload_n 0, 1) := by decide +kernel
theorem dX13_mayBeGiven_1 : decode cX13_mayBeGiven 1 = .ok (.iload_n 1, 1) := by decide +kernel
theorem dX13_mayBeGiven_2 : decode cX13_mayBeGiven 2 = .ok (.invokevirtual 467, 3) := by decide +kernel
theorem dX13_mayBeGiven_5 : decode cX13_mayBeGiven 5 = .ok (.ifCond .eq 65, 3) := by decide +kernel
theorem dX13_mayBeGiven_70 : decode cX13_mayBeGiven 70 = .ok (.iconst 0, 1) := by decide +kernel
theorem dX13_mayBeGiven_71 : decode cX13_mayBeGiven 71 = .ok (.ireturn, 1) := by decide +kernel
theorem dX13_give_0 : decode cX13_give 0 = .ok (.aload_n 0, 1) := by decide +kernel
theorem dX13_give_1 : decode cX13_give 1 = .ok (.iload_n 1, 1) := by decide +kernel
theorem dX13_give_2 : decode cX13_give 2 = .ok (.iload_n 2, 1) := by decide +kernel
theorem dX13_give_3 : decode cX13_give 3 = .ok (.invokevirtual 473, 3) := by decide +kernel
theorem dX13_give_6 : decode cX13_give 6 = .ok (.ifCond .ne 5, 3) := by decide +kernel
theorem dX13_give_9 : decode cX13_give 9 = .ok (.iconst 0, 1) := by decide +kernel
theorem dX13_give_10 : decode cX13_give 10 = .ok (.ireturn, 1) := by decide +kernel
theorem dX13_knownOf_0 : decode cX13_knownOf 0 = .ok (.aload_n 0, 1) := by decide +kernel
theorem dX13_knownOf_1 : decode cX13_knownOf 1 = .ok (.getfield 476, 3) := by decide +kernel
theorem dX13_knownOf_4 : decode cX13_knownOf 4 = .ok (.iconst 1, 1) := by decide +kernel
theorem dX13_knownOf_5 : decode cX13_knownOf 5 = .ok (.isub, 1) := by decide +kernel
theorem dX13_knownOf_6 : decode cX13_knownOf 6 = .ok (.istore_n 3, 1) := by decide +kernel
theorem dX13_knownOf_7 : decode cX13_knownOf 7 = .ok (.iload_n 3, 1) := by decide +kernel
theorem dX13_knownOf_8 : decode cX13_knownOf 8 = .ok (.ifCond .lt 31, 3) := by decide +kernel
theorem dX13_knownOf_39 : decode cX13_knownOf 39 = .ok (.iconst (-1), 1) := by decide +kernel
theorem dX13_knownOf_40 : decode cX13_knownOf 40 = .ok (.ireturn, 1) := by decide +kernel
theorem dX13_line_0 : decode cX13_line 0 = .ok (.aload_n 0, 1) := by decide +kernel
theorem dX13_line_1 : decode cX13_line 1 = .ok (.iload_n 1, 1) := by decide +kernel
theorem dX13_line_2 : decode cX13_line 2 = .ok (.invokevirtual 467, 3) := by decide +kernel
theorem dX13_line_5 : decode cX13_line 5 = .ok (.ifCond .eq 74, 3) := by decide +kernel
theorem dX13_line_79 : decode cX13_line 79 = .ok (.iconst (-1), 1) := by decide +kernel
theorem dX13_line_80 : decode cX13_line 80 = .ok (.ireturn, 1) := by decide +kernel
theorem dX13_die_0 : decode cX13_die 0 = .ok (.aload_n 0, 1) := by decide +kernel
theorem dX13_die_1 : decode cX13_die 1 = .ok (.iload_n 1, 1) := by decide +kernel
theorem dX13_die_2 : decode cX13_die 2 = .ok (.invokevirtual 449, 3) := by decide +kernel
theorem dX13_die_5 : decode cX13_die 5 = .ok (.ifCond .eq 12, 3) := by decide +kernel
theorem dX13_die_17 : decode cX13_die 17 = .ok (.iconst (-1), 1) := by decide +kernel
theorem dX13_die_18 : decode cX13_die 18 = .ok (.ireturn, 1) := by decide +kernel
theorem dX13_takers_0 : decode cX13_takers 0 = .ok (.aload_n 0, 1) := by decide +kernel
theorem dX13_takers_1 : decode cX13_takers 1 = .ok (.iload_n 1, 1) := by decide +kernel
theorem dX13_takers_2 : decode cX13_takers 2 = .ok (.invokevirtual 421, 3) := by decide +kernel
theorem dX13_takers_5 : decode cX13_takers 5 = .ok (.ifCond .eq 11, 3) := by decide +kernel
theorem dX13_takers_16 : decode cX13_takers 16 = .ok (.iconst (-1), 1) := by decide +kernel
theorem dX13_takers_17 : decode cX13_takers 17 = .ok (.ireturn, 1) := by decide +kernel
theorem dX13_tell_0 : decode cX13_tell 0 = .ok (.iload_n 1, 1) := by decide +kernel
theorem dX13_tell_1 : decode cX13_tell 1 = .ok (.iconst 0, 1) := by decide +kernel
theorem dX13_tell_2 : decode cX13_tell 2 = .ok (.bipush 39, 2) := by decide +kernel
theorem dX13_tell_4 : decode cX13_tell 4 = .ok (.invokestatic 256, 3) := by decide +kernel
theorem dX13_tell_7 : decode cX13_tell 7 = .ok (.ifCond .eq 28, 3) := by decide +kernel
theorem dX13_tell_10 : decode cX13_tell 10 = .ok (.iload_n 2, 1) := by decide +kernel
theorem dX13_tell_11 : decode cX13_tell 11 = .ok (.iconst 0, 1) := by decide +kernel
theorem dX13_tell_12 : decode cX13_tell 12 = .ok (.sipush 999, 3) := by decide +kernel
theorem dX13_tell_15 : decode cX13_tell 15 = .ok (.invokestatic 256, 3) := by decide +kernel
theorem dX13_tell_18 : decode cX13_tell 18 = .ok (.ifCond .eq 17, 3) := by decide +kernel
theorem dX13_tell_21 : decode cX13_tell 21 = .ok (.iload_n 3, 1) := by decide +kernel
theorem dX13_tell_22 : decode cX13_tell 22 = .ok (.ifCond .lt 13, 3) := by decide +kernel
theorem dX13_tell_25 : decode cX13_tell 25 = .ok (.aload_n 0, 1) := by decide +kernel
theorem dX13_tell_26 : decode cX13_tell 26 = .ok (.getfield 476, 3) := by decide +kernel
theorem dX13_tell_29 : decode cX13_tell 29 = .ok (.sipush 600, 3) := by decide +kernel
theorem dX13_tell_32 : decode cX13_tell 32 = .ok (.if_icmp .ne 5, 3) := by decide +kernel
theorem dX13_tell_35 : decode cX13_tell 35 = .ok (.iconst 0, 1) := by decide +kernel
theorem dX13_tell_36 : decode cX13_tell 36 = .ok (.ireturn, 1) := by decide +kernel
theorem dX13_tell_37 : decode cX13_tell 37 = .ok (.aload_n 0, 1) := by decide +kernel
theorem dX13_tell_38 : decode cX13_tell 38 = .ok (.getfield 162, 3) := by decide +kernel
theorem dX13_tell_41 : decode cX13_tell 41 = .ok (.aload_n 0, 1) := by decide +kernel
theorem dX13_tell_42 : decode cX13_tell 42 = .ok (.getfield 476, 3) := by decide +kernel
theorem dX13_tell_45 : decode cX13_tell 45 = .ok (.iload_n 1, 1) := by decide +kernel
theorem dX13_tell_46 : decode cX13_tell 46 = .ok (.iastore, 1) := by decide +kernel
theorem dX13_tell_47 : decode cX13_tell 47 = .ok (.aload_n 0, 1) := by decide +kernel
theorem dX13_tell_48 : decode cX13_tell 48 = .ok (.getfield 165, 3) := by decide +kernel
theorem dX13_tell_51 : decode cX13_tell 51 = .ok (.aload_n 0, 1) := by decide +kernel
theorem dX13_tell_52 : decode cX13_tell 52 = .ok (.getfield 476, 3) := by decide +kernel
theorem dX13_tell_55 : decode cX13_tell 55 = .ok (.iload_n 2, 1) := by decide +kernel
theorem dX13_tell_56 : decode cX13_tell 56 = .ok (.iastore, 1) := by decide +kernel
theorem dX13_tell_57 : decode cX13_tell 57 = .ok (.aload_n 0, 1) := by decide +kernel
theorem dX13_tell_58 : decode cX13_tell 58 = .ok (.getfield 168, 3) := by decide +kernel
theorem dX13_tell_61 : decode cX13_tell 61 = .ok (.aload_n 0, 1) := by decide +kernel
theorem dX13_tell_62 : decode cX13_tell 62 = .ok (.getfield 476, 3) := by decide +kernel
theorem dX13_tell_65 : decode cX13_tell 65 = .ok (.iload_n 3, 1) := by decide +kernel
theorem dX13_tell_66 : decode cX13_tell 66 = .ok (.iastore, 1) := by decide +kernel
theorem dX13_tell_67 : decode cX13_tell 67 = .ok (.aload_n 0, 1) := by decide +kernel
theorem dX13_tell_68 : decode cX13_tell 68 = .ok (.getfield 171, 3) := by decide +kernel
theorem dX13_tell_71 : decode cX13_tell 71 = .ok (.aload_n 0, 1) := by decide +kernel
theorem dX13_tell_72 : decode cX13_tell 72 = .ok (.getfield 476, 3) := by decide +kernel
theorem dX13_tell_75 : decode cX13_tell 75 = .ok (.aload_n 0, 1) := by decide +kernel
theorem dX13_tell_76 : decode cX13_tell 76 = .ok (.getfield 383, 3) := by decide +kernel
theorem dX13_tell_79 : decode cX13_tell 79 = .ok (.iastore, 1) := by decide +kernel
theorem dX13_tell_80 : decode cX13_tell 80 = .ok (.aload_n 0, 1) := by decide +kernel
theorem dX13_tell_81 : decode cX13_tell 81 = .ok (.dup, 1) := by decide +kernel
theorem dX13_tell_82 : decode cX13_tell 82 = .ok (.getfield 476, 3) := by decide +kernel
theorem dX13_tell_85 : decode cX13_tell 85 = .ok (.iconst 1, 1) := by decide +kernel
theorem dX13_tell_86 : decode cX13_tell 86 = .ok (.iadd, 1) := by decide +kernel
theorem dX13_tell_87 : decode cX13_tell 87 = .ok (.putfield 476, 3) := by decide +kernel
theorem dX13_tell_90 : decode cX13_tell 90 = .ok (.iconst 1, 1) := by decide +kernel
theorem dX13_tell_91 : decode cX13_tell 91 = .ok (.ireturn, 1) := by decide +kernel
theorem dX13_known_0 : decode cX13_known 0 = .ok (.iload_n 1, 1) := by decide +kernel
theorem dX13_known_1 : decode cX13_known 1 = .ok (.iconst 0, 1) := by decide +kernel
theorem dX13_known_2 : decode cX13_known 2 = .ok (.bipush 39, 2) := by decide +kernel
theorem dX13_known_4 : decode cX13_known 4 = .ok (.invokestatic 256, 3) := by decide +kernel
theorem dX13_known_7 : decode cX13_known 7 = .ok (.ifCond .eq 23, 3) := by decide +kernel
theorem dX13_known_10 : decode cX13_known 10 = .ok (.iload_n 2, 1) := by decide +kernel
theorem dX13_known_11 : decode cX13_known 11 = .ok (.iconst 0, 1) := by decide +kernel
theorem dX13_known_12 : decode cX13_known 12 = .ok (.sipush 2000, 3) := by decide +kernel
theorem dX13_known_15 : decode cX13_known 15 = .ok (.invokestatic 256, 3) := by decide +kernel
theorem dX13_known_18 : decode cX13_known 18 = .ok (.ifCond .eq 12, 3) := by decide +kernel
theorem dX13_known_21 : decode cX13_known 21 = .ok (.iload_n 3, 1) := by decide +kernel
theorem dX13_known_22 : decode cX13_known 22 = .ok (.iconst 0, 1) := by decide +kernel
theorem dX13_known_23 : decode cX13_known 23 = .ok (.iconst 1, 1) := by decide +kernel
theorem dX13_known_24 : decode cX13_known 24 = .ok (.invokestatic 256, 3) := by decide +kernel
theorem dX13_known_27 : decode cX13_known 27 = .ok (.ifCond .ne 5, 3) := by decide +kernel
theorem dX13_known_30 : decode cX13_known 30 = .ok (.iconst (-1), 1) := by decide +kernel
theorem dX13_known_31 : decode cX13_known 31 = .ok (.ireturn, 1) := by decide +kernel
theorem dX13_known_32 : decode cX13_known 32 = .ok (.aload_n 0, 1) := by decide +kernel
theorem dX13_known_33 : decode cX13_known 33 = .ok (.iload_n 1, 1) := by decide +kernel
theorem dX13_known_34 : decode cX13_known 34 = .ok (.iload_n 2, 1) := by decide +kernel
theorem dX13_known_35 : decode cX13_known 35 = .ok (.invokevirtual 479, 3) := by decide +kernel
theorem dX13_known_38 : decode cX13_known 38 = .ok (.istore 4, 2) := by decide +kernel
theorem dX13_known_40 : decode cX13_known 40 = .ok (.iload 4, 2) := by decide +kernel
theorem dX13_known_42 : decode cX13_known 42 = .ok (.iconst (-1), 1) := by decide +kernel
theorem dX13_known_43 : decode cX13_known 43 = .ok (.if_icmp .ne 7, 3) := by decide +kernel
theorem dX13_known_46 : decode cX13_known 46 = .ok (.iconst (-1), 1) := by decide +kernel
theorem dX13_known_47 : decode cX13_known 47 = .ok (.goto 24, 3) := by decide +kernel
theorem dX13_known_71 : decode cX13_known 71 = .ok (.ireturn, 1) := by decide +kernel
theorem dX13_isLine_0 : decode cX13_isLine 0 = .ok (.iload_n 1, 1) := by decide +kernel
theorem dX13_isLine_1 : decode cX13_isLine 1 = .ok (.iconst 0, 1) := by decide +kernel
theorem dX13_isLine_2 : decode cX13_isLine 2 = .ok (.aload_n 0, 1) := by decide +kernel
theorem dX13_isLine_3 : decode cX13_isLine 3 = .ok (.getfield 452, 3) := by decide +kernel
theorem dX13_isLine_6 : decode cX13_isLine 6 = .ok (.iconst 1, 1) := by decide +kernel
theorem dX13_isLine_7 : decode cX13_isLine 7 = .ok (.isub, 1) := by decide +kernel
theorem dX13_isLine_8 : decode cX13_isLine 8 = .ok (.invokestatic 256, 3) := by decide +kernel
theorem dX13_isLine_11 : decode cX13_isLine 11 = .ok (.ireturn, 1) := by decide +kernel
theorem dX13_stale_0 : decode cX13_stale 0 = .ok (.aload_n 0, 1) := by decide +kernel
theorem dX13_stale_1 : decode cX13_stale 1 = .ok (.iload_n 1, 1) := by decide +kernel
theorem dX13_stale_2 : decode cX13_stale 2 = .ok (.invokevirtual 497, 3) := by decide +kernel
theorem dX13_stale_5 : decode cX13_stale 5 = .ok (.ifCond .eq 27, 3) := by decide +kernel
theorem dX13_stale_32 : decode cX13_stale 32 = .ok (.iconst 0, 1) := by decide +kernel
theorem dX13_stale_33 : decode cX13_stale 33 = .ok (.ireturn, 1) := by decide +kernel
theorem dX13_stales_0 : decode cX13_stales 0 = .ok (.aload_n 0, 1) := by decide +kernel
theorem dX13_stales_1 : decode cX13_stales 1 = .ok (.iload_n 1, 1) := by decide +kernel
theorem dX13_stales_2 : decode cX13_stales 2 = .ok (.invokevirtual 421, 3) := by decide +kernel
theorem dX13_stales_5 : decode cX13_stales 5 = .ok (.ifCond .ne 5, 3) := by decide +kernel
theorem dX13_stales_8 : decode cX13_stales 8 = .ok (.iconst (-1), 1) := by decide +kernel
theorem dX13_stales_9 : decode cX13_stales 9 = .ok (.ireturn, 1) := by decide +kernel
theorem dX13_mend_0 : decode cX13_mend 0 = .ok (.aload_n 0, 1) := by decide +kernel
theorem dX13_mend_1 : decode cX13_mend 1 = .ok (.iload_n 1, 1) := by decide +kernel
theorem dX13_mend_2 : decode cX13_mend 2 = .ok (.invokevirtual 497, 3) := by decide +kernel
theorem dX13_mend_5 : decode cX13_mend 5 = .ok (.ifCond .eq 21, 3) := by decide +kernel
theorem dX13_mend_26 : decode cX13_mend 26 = .ok (.iconst (-1), 1) := by decide +kernel
theorem dX13_mend_27 : decode cX13_mend 27 = .ok (.ireturn, 1) := by decide +kernel
theorem dX13_erratum_0 : decode cX13_erratum 0 = .ok (.aload_n 0, 1) := by decide +kernel
theorem dX13_erratum_1 : decode cX13_erratum 1 = .ok (.iload_n 1, 1) := by decide +kernel
theorem dX13_erratum_2 : decode cX13_erratum 2 = .ok (.invokevirtual 497, 3) := by decide +kernel
theorem dX13_erratum_5 : decode cX13_erratum 5 = .ok (.ifCond .eq 52, 3) := by decide +kernel
theorem dX13_erratum_57 : decode cX13_erratum 57 = .ok (.iconst (-1), 1) := by decide +kernel
theorem dX13_erratum_58 : decode cX13_erratum 58 = .ok (.ireturn, 1) := by decide +kernel
theorem dX13_misses_0 : decode cX13_misses 0 = .ok (.iload_n 1, 1) := by decide +kernel
theorem dX13_misses_1 : decode cX13_misses 1 = .ok (.iconst 0, 1) := by decide +kernel
theorem dX13_misses_2 : decode cX13_misses 2 = .ok (.aload_n 0, 1) := by decide +kernel
theorem dX13_misses_3 : decode cX13_misses 3 = .ok (.getfield 488, 3) := by decide +kernel
theorem dX13_misses_6 : decode cX13_misses 6 = .ok (.iconst 1, 1) := by decide +kernel
theorem dX13_misses_7 : decode cX13_misses 7 = .ok (.isub, 1) := by decide +kernel
theorem dX13_misses_8 : decode cX13_misses 8 = .ok (.invokestatic 256, 3) := by decide +kernel
theorem dX13_misses_11 : decode cX13_misses 11 = .ok (.ifCond .ne 5, 3) := by decide +kernel
theorem dX13_misses_14 : decode cX13_misses 14 = .ok (.iconst (-1), 1) := by decide +kernel
theorem dX13_misses_15 : decode cX13_misses 15 = .ok (.ireturn, 1) := by decide +kernel
theorem dX13_told_0 : decode cX13_told 0 = .ok (.aload_n 0, 1) := by decide +kernel
theorem dX13_told_1 : decode cX13_told 1 = .ok (.iload_n 1, 1) := by decide +kernel
theorem dX13_told_2 : decode cX13_told 2 = .ok (.invokevirtual 497, 3) := by decide +kernel
theorem dX13_told_5 : decode cX13_told 5 = .ok (.ifCond .ne 5, 3) := by decide +kernel
theorem dX13_told_8 : decode cX13_told 8 = .ok (.iconst (-1), 1) := by decide +kernel
theorem dX13_told_9 : decode cX13_told 9 = .ok (.ireturn, 1) := by decide +kernel
theorem dX13_canBeSet_0 : decode cX13_canBeSet 0 = .ok (.iconst 0, 1) := by decide +kernel
theorem dX13_canBeSet_1 : decode cX13_canBeSet 1 = .ok (.istore_n 3, 1) := by decide +kernel
theorem dX13_canBeSet_2 : decode cX13_canBeSet 2 = .ok (.iload_n 3, 1) := by decide +kernel
theorem dX13_canBeSet_3 : decode cX13_canBeSet 3 = .ok (.iload_n 2, 1) := by decide +kernel
theorem dX13_canBeSet_4 : decode cX13_canBeSet 4 = .ok (.if_icmp .ge 79, 3) := by decide +kernel
theorem dX13_canBeSet_83 : decode cX13_canBeSet 83 = .ok (.iconst 1, 1) := by decide +kernel
theorem dX13_canBeSet_84 : decode cX13_canBeSet 84 = .ok (.ireturn, 1) := by decide +kernel
theorem dX13_set_0 : decode cX13_set 0 = .ok (.iload_n 1, 1) := by decide +kernel
theorem dX13_set_1 : decode cX13_set 1 = .ok (.invokestatic 377, 3) := by decide +kernel
theorem dX13_set_4 : decode cX13_set 4 = .ok (.ifCond .eq 12, 3) := by decide +kernel
theorem dX13_set_7 : decode cX13_set 7 = .ok (.aload_n 0, 1) := by decide +kernel
theorem dX13_set_8 : decode cX13_set 8 = .ok (.getfield 68, 3) := by decide +kernel
theorem dX13_set_11 : decode cX13_set 11 = .ok (.iload_n 1, 1) := by decide +kernel
theorem dX13_set_12 : decode cX13_set 12 = .ok (.baload, 1) := by decide +kernel
theorem dX13_set_13 : decode cX13_set 13 = .ok (.ifCond .eq 5, 3) := by decide +kernel
theorem dX13_set_16 : decode cX13_set 16 = .ok (.iconst (-1), 1) := by decide +kernel
theorem dX13_set_17 : decode cX13_set 17 = .ok (.ireturn, 1) := by decide +kernel
theorem dX13_set_18 : decode cX13_set 18 = .ok (.aload_n 0, 1) := by decide +kernel
theorem dX13_set_19 : decode cX13_set 19 = .ok (.iload_n 1, 1) := by decide +kernel
theorem dX13_set_20 : decode cX13_set 20 = .ok (.invokevirtual 442, 3) := by decide +kernel
theorem dX13_set_23 : decode cX13_set 23 = .ok (.istore_n 2, 1) := by decide +kernel
theorem dX13_set_24 : decode cX13_set 24 = .ok (.aload_n 0, 1) := by decide +kernel
theorem dX13_set_25 : decode cX13_set 25 = .ok (.iload_n 1, 1) := by decide +kernel
theorem dX13_set_26 : decode cX13_set 26 = .ok (.iload_n 2, 1) := by decide +kernel
theorem dX13_set_27 : decode cX13_set 27 = .ok (.invokevirtual 506, 3) := by decide +kernel
theorem dX13_set_30 : decode cX13_set 30 = .ok (.ifCond .ne 5, 3) := by decide +kernel
theorem dX13_set_35 : decode cX13_set 35 = .ok (.iconst 0, 1) := by decide +kernel
theorem dX13_set_36 : decode cX13_set 36 = .ok (.istore_n 3, 1) := by decide +kernel
theorem dX13_set_37 : decode cX13_set 37 = .ok (.iconst 0, 1) := by decide +kernel
theorem dX13_set_38 : decode cX13_set 38 = .ok (.istore 4, 2) := by decide +kernel
theorem dX13_set_40 : decode cX13_set 40 = .ok (.iconst 0, 1) := by decide +kernel
theorem dX13_set_41 : decode cX13_set 41 = .ok (.istore 5, 2) := by decide +kernel
theorem dX13_set_43 : decode cX13_set 43 = .ok (.iload 5, 2) := by decide +kernel
theorem dX13_set_45 : decode cX13_set 45 = .ok (.iload_n 2, 1) := by decide +kernel
theorem dX13_set_46 : decode cX13_set 46 = .ok (.if_icmp .ge 160, 3) := by decide +kernel
theorem dX13_set_206 : decode cX13_set 206 = .ok (.aload_n 0, 1) := by decide +kernel
theorem dX13_set_207 : decode cX13_set 207 = .ok (.getfield 68, 3) := by decide +kernel
theorem dX13_set_210 : decode cX13_set 210 = .ok (.iload_n 1, 1) := by decide +kernel
theorem dX13_set_211 : decode cX13_set 211 = .ok (.iconst 1, 1) := by decide +kernel
theorem dX13_set_212 : decode cX13_set 212 = .ok (.bastore, 1) := by decide +kernel
theorem dX13_set_213 : decode cX13_set 213 = .ok (.aload_n 0, 1) := by decide +kernel
theorem dX13_set_214 : decode cX13_set 214 = .ok (.getfield 72, 3) := by decide +kernel
theorem dX13_set_217 : decode cX13_set 217 = .ok (.iload_n 1, 1) := by decide +kernel
theorem dX13_set_218 : decode cX13_set 218 = .ok (.aload_n 0, 1) := by decide +kernel
theorem dX13_set_219 : decode cX13_set 219 = .ok (.getfield 383, 3) := by decide +kernel
theorem dX13_set_222 : decode cX13_set 222 = .ok (.iastore, 1) := by decide +kernel
theorem dX13_set_223 : decode cX13_set 223 = .ok (.aload_n 0, 1) := by decide +kernel
theorem dX13_set_224 : decode cX13_set 224 = .ok (.getfield 75, 3) := by decide +kernel
theorem dX13_set_227 : decode cX13_set 227 = .ok (.iload_n 1, 1) := by decide +kernel
theorem dX13_set_228 : decode cX13_set 228 = .ok (.iload_n 2, 1) := by decide +kernel
theorem dX13_set_229 : decode cX13_set 229 = .ok (.iastore, 1) := by decide +kernel
theorem dX13_set_230 : decode cX13_set 230 = .ok (.aload_n 0, 1) := by decide +kernel
theorem dX13_set_231 : decode cX13_set 231 = .ok (.getfield 81, 3) := by decide +kernel
theorem dX13_set_234 : decode cX13_set 234 = .ok (.iload_n 1, 1) := by decide +kernel
theorem dX13_set_235 : decode cX13_set 235 = .ok (.iload_n 3, 1) := by decide +kernel
theorem dX13_set_236 : decode cX13_set 236 = .ok (.iastore, 1) := by decide +kernel
theorem dX13_set_237 : decode cX13_set 237 = .ok (.iload_n 3, 1) := by decide +kernel
theorem dX13_set_238 : decode cX13_set 238 = .ok (.bipush 40, 2) := by decide +kernel
theorem dX13_set_240 : decode cX13_set 240 = .ok (.iadd, 1) := by decide +kernel
theorem dX13_set_241 : decode cX13_set 241 = .ok (.iconst 1, 1) := by decide +kernel
theorem dX13_set_242 : decode cX13_set 242 = .ok (.isub, 1) := by decide +kernel
theorem dX13_set_243 : decode cX13_set 243 = .ok (.bipush 40, 2) := by decide +kernel
theorem dX13_set_245 : decode cX13_set 245 = .ok (.idiv, 1) := by decide +kernel
theorem dX13_set_246 : decode cX13_set 246 = .ok (.ireturn, 1) := by decide +kernel
theorem dX13_page_0 : decode cX13_page 0 = .ok (.aload_n 0, 1) := by decide +kernel
theorem dX13_page_1 : decode cX13_page 1 = .ok (.iload_n 1, 1) := by decide +kernel
theorem dX13_page_2 : decode cX13_page 2 = .ok (.invokevirtual 421, 3) := by decide +kernel
theorem dX13_page_5 : decode cX13_page 5 = .ok (.ifCond .eq 12, 3) := by decide +kernel
theorem dX13_page_17 : decode cX13_page 17 = .ok (.iconst (-1), 1) := by decide +kernel
theorem dX13_page_18 : decode cX13_page 18 = .ok (.ireturn, 1) := by decide +kernel
theorem dX13_ends_0 : decode cX13_ends 0 = .ok (.aload_n 0, 1) := by decide +kernel
theorem dX13_ends_1 : decode cX13_ends 1 = .ok (.iload_n 1, 1) := by decide +kernel
theorem dX13_ends_2 : decode cX13_ends 2 = .ok (.invokevirtual 421, 3) := by decide +kernel
theorem dX13_ends_5 : decode cX13_ends 5 = .ok (.ifCond .eq 21, 3) := by decide +kernel
theorem dX13_ends_26 : decode cX13_ends 26 = .ok (.iconst (-1), 1) := by decide +kernel
theorem dX13_ends_27 : decode cX13_ends 27 = .ok (.ireturn, 1) := by decide +kernel
theorem dX13_promise_0 : decode cX13_promise 0 = .ok (.aload_n 0, 1) := by decide +kernel
theorem dX13_promise_1 : decode cX13_promise 1 = .ok (.iload_n 1, 1) := by decide +kernel
theorem dX13_promise_2 : decode cX13_promise 2 = .ok (.invokevirtual 421, 3) := by decide +kernel
theorem dX13_promise_5 : decode cX13_promise 5 = .ok (.ifCond .eq 21, 3) := by decide +kernel
theorem dX13_promise_26 : decode cX13_promise 26 = .ok (.iconst (-1), 1) := by decide +kernel
theorem dX13_promise_27 : decode cX13_promise 27 = .ok (.ireturn, 1) := by decide +kernel
theorem dX13_promised_0 : decode cX13_promised 0 = .ok (.aload_n 0, 1) := by decide +kernel
theorem dX13_promised_1 : decode cX13_promised 1 = .ok (.iload_n 1, 1) := by decide +kernel
theorem dX13_promised_2 : decode cX13_promised 2 = .ok (.invokevirtual 449, 3) := by decide +kernel
theorem dX13_promised_5 : decode cX13_promised 5 = .ok (.ifCond .ne 5, 3) := by decide +kernel
theorem dX13_promised_8 : decode cX13_promised 8 = .ok (.iconst (-1), 1) := by decide +kernel
theorem dX13_promised_9 : decode cX13_promised 9 = .ok (.ireturn, 1) := by decide +kernel
theorem dX13_subscribe_0 : decode cX13_subscribe 0 = .ok (.iload_n 1, 1) := by decide +kernel
theorem dX13_subscribe_1 : decode cX13_subscribe 1 = .ok (.iconst 0, 1) := by decide +kernel
theorem dX13_subscribe_2 : decode cX13_subscribe 2 = .ok (.bipush 9, 2) := by decide +kernel
theorem dX13_subscribe_4 : decode cX13_subscribe 4 = .ok (.invokestatic 256, 3) := by decide +kernel
theorem dX13_subscribe_7 : decode cX13_subscribe 7 = .ok (.ifCond .eq 30, 3) := by decide +kernel
theorem dX13_subscribe_10 : decode cX13_subscribe 10 = .ok (.iload_n 2, 1) := by decide +kernel
theorem dX13_subscribe_11 : decode cX13_subscribe 11 = .ok (.invokestatic 377, 3) := by decide +kernel
theorem dX13_subscribe_14 : decode cX13_subscribe 14 = .ok (.ifCond .eq 23, 3) := by decide +kernel
theorem dX13_subscribe_17 : decode cX13_subscribe 17 = .ok (.iload_n 3, 1) := by decide +kernel
theorem dX13_subscribe_18 : decode cX13_subscribe 18 = .ok (.iconst 1, 1) := by decide +kernel
theorem dX13_subscribe_19 : decode cX13_subscribe 19 = .ok (.sipush 999, 3) := by decide +kernel
theorem dX13_subscribe_22 : decode cX13_subscribe 22 = .ok (.invokestatic 256, 3) := by decide +kernel
theorem dX13_subscribe_25 : decode cX13_subscribe 25 = .ok (.ifCond .eq 12, 3) := by decide +kernel
theorem dX13_subscribe_28 : decode cX13_subscribe 28 = .ok (.aload_n 0, 1) := by decide +kernel
theorem dX13_subscribe_29 : decode cX13_subscribe 29 = .ok (.getfield 189, 3) := by decide +kernel
theorem dX13_subscribe_32 : decode cX13_subscribe 32 = .ok (.iload_n 1, 1) := by decide +kernel
theorem dX13_subscribe_33 : decode cX13_subscribe 33 = .ok (.iaload, 1) := by decide +kernel
theorem dX13_subscribe_34 : decode cX13_subscribe 34 = .ok (.ifCond .le 5, 3) := by decide +kernel
theorem dX13_subscribe_37 : decode cX13_subscribe 37 = .ok (.iconst 0, 1) := by decide +kernel
theorem dX13_subscribe_38 : decode cX13_subscribe 38 = .ok (.ireturn, 1) := by decide +kernel
theorem dX13_subscribe_39 : decode cX13_subscribe 39 = .ok (.aload_n 0, 1) := by decide +kernel
theorem dX13_subscribe_40 : decode cX13_subscribe 40 = .ok (.getfield 186, 3) := by decide +kernel
theorem dX13_subscribe_43 : decode cX13_subscribe 43 = .ok (.iload_n 1, 1) := by decide +kernel
theorem dX13_subscribe_44 : decode cX13_subscribe 44 = .ok (.iload_n 2, 1) := by decide +kernel
theorem dX13_subscribe_45 : decode cX13_subscribe 45 = .ok (.iastore, 1) := by decide +kernel
theorem dX13_subscribe_46 : decode cX13_subscribe 46 = .ok (.aload_n 0, 1) := by decide +kernel
theorem dX13_subscribe_47 : decode cX13_subscribe 47 = .ok (.getfield 189, 3) := by decide +kernel
theorem dX13_subscribe_50 : decode cX13_subscribe 50 = .ok (.iload_n 1, 1) := by decide +kernel
theorem dX13_subscribe_51 : decode cX13_subscribe 51 = .ok (.iload_n 3, 1) := by decide +kernel
theorem dX13_subscribe_52 : decode cX13_subscribe 52 = .ok (.iastore, 1) := by decide +kernel
theorem dX13_subscribe_53 : decode cX13_subscribe 53 = .ok (.iconst 1, 1) := by decide +kernel
theorem dX13_subscribe_54 : decode cX13_subscribe 54 = .ok (.ireturn, 1) := by decide +kernel
theorem dX13_owed_0 : decode cX13_owed 0 = .ok (.iload_n 1, 1) := by decide +kernel
theorem dX13_owed_1 : decode cX13_owed 1 = .ok (.iconst 0, 1) := by decide +kernel
theorem dX13_owed_2 : decode cX13_owed 2 = .ok (.bipush 9, 2) := by decide +kernel
theorem dX13_owed_4 : decode cX13_owed 4 = .ok (.invokestatic 256, 3) := by decide +kernel
theorem dX13_owed_7 : decode cX13_owed 7 = .ok (.ifCond .eq 38, 3) := by decide +kernel
theorem dX13_owed_10 : decode cX13_owed 10 = .ok (.aload_n 0, 1) := by decide +kernel
theorem dX13_owed_11 : decode cX13_owed 11 = .ok (.getfield 189, 3) := by decide +kernel
theorem dX13_owed_14 : decode cX13_owed 14 = .ok (.iload_n 1, 1) := by decide +kernel
theorem dX13_owed_15 : decode cX13_owed 15 = .ok (.iaload, 1) := by decide +kernel
theorem dX13_owed_16 : decode cX13_owed 16 = .ok (.ifCond .eq 29, 3) := by decide +kernel
theorem dX13_owed_45 : decode cX13_owed 45 = .ok (.iconst (-1), 1) := by decide +kernel
theorem dX13_owed_46 : decode cX13_owed 46 = .ok (.ireturn, 1) := by decide +kernel
theorem dX13_bringsTo_0 : decode cX13_bringsTo 0 = .ok (.iload_n 1, 1) := by decide +kernel
theorem dX13_bringsTo_1 : decode cX13_bringsTo 1 = .ok (.invokestatic 377, 3) := by decide +kernel
theorem dX13_bringsTo_4 : decode cX13_bringsTo 4 = .ok (.ifCond .eq 23, 3) := by decide +kernel
theorem dX13_bringsTo_7 : decode cX13_bringsTo 7 = .ok (.aload_n 0, 1) := by decide +kernel
theorem dX13_bringsTo_8 : decode cX13_bringsTo 8 = .ok (.getfield 68, 3) := by decide +kernel
theorem dX13_bringsTo_11 : decode cX13_bringsTo 11 = .ok (.iload_n 1, 1) := by decide +kernel
theorem dX13_bringsTo_12 : decode cX13_bringsTo 12 = .ok (.baload, 1) := by decide +kernel
theorem dX13_bringsTo_13 : decode cX13_bringsTo 13 = .ok (.ifCond .ne 14, 3) := by decide +kernel
theorem dX13_bringsTo_16 : decode cX13_bringsTo 16 = .ok (.iload_n 2, 1) := by decide +kernel
theorem dX13_bringsTo_17 : decode cX13_bringsTo 17 = .ok (.iconst 1, 1) := by decide +kernel
theorem dX13_bringsTo_18 : decode cX13_bringsTo 18 = .ok (.sipush 400, 3) := by decide +kernel
theorem dX13_bringsTo_21 : decode cX13_bringsTo 21 = .ok (.invokestatic 256, 3) := by decide +kernel
theorem dX13_bringsTo_24 : decode cX13_bringsTo 24 = .ok (.ifCond .ne 5, 3) := by decide +kernel
theorem dX13_bringsTo_27 : decode cX13_bringsTo 27 = .ok (.iconst (-1), 1) := by decide +kernel
theorem dX13_bringsTo_28 : decode cX13_bringsTo 28 = .ok (.ireturn, 1) := by decide +kernel
theorem dX13_bringsTo_29 : decode cX13_bringsTo 29 = .ok (.aload_n 0, 1) := by decide +kernel
theorem dX13_bringsTo_30 : decode cX13_bringsTo 30 = .ok (.iload_n 1, 1) := by decide +kernel
theorem dX13_bringsTo_31 : decode cX13_bringsTo 31 = .ok (.invokevirtual 442, 3) := by decide +kernel
theorem dX13_bringsTo_34 : decode cX13_bringsTo 34 = .ok (.istore_n 3, 1) := by decide +kernel
theorem dX13_bringsTo_35 : decode cX13_bringsTo 35 = .ok (.iconst 0, 1) := by decide +kernel
theorem dX13_bringsTo_36 : decode cX13_bringsTo 36 = .ok (.istore 4, 2) := by decide +kernel
theorem dX13_bringsTo_38 : decode cX13_bringsTo 38 = .ok (.iconst 0, 1) := by decide +kernel
theorem dX13_bringsTo_39 : decode cX13_bringsTo 39 = .ok (.istore 5, 2) := by decide +kernel
theorem dX13_bringsTo_41 : decode cX13_bringsTo 41 = .ok (.iconst 0, 1) := by decide +kernel
theorem dX13_bringsTo_42 : decode cX13_bringsTo 42 = .ok (.istore 6, 2) := by decide +kernel
theorem dX13_bringsTo_44 : decode cX13_bringsTo 44 = .ok (.aload_n 0, 1) := by decide +kernel
theorem dX13_bringsTo_45 : decode cX13_bringsTo 45 = .ok (.iconst 0, 1) := by decide +kernel
theorem dX13_bringsTo_46 : decode cX13_bringsTo 46 = .ok (.putfield 515, 3) := by decide +kernel
theorem dX13_bringsTo_49 : decode cX13_bringsTo 49 = .ok (.iconst 0, 1) := by decide +kernel
theorem dX13_bringsTo_50 : decode cX13_bringsTo 50 = .ok (.istore 7, 2) := by decide +kernel
theorem dX13_bringsTo_52 : decode cX13_bringsTo 52 = .ok (.iload 7, 2) := by decide +kernel
theorem dX13_bringsTo_54 : decode cX13_bringsTo 54 = .ok (.iload_n 3, 1) := by decide +kernel
theorem dX13_bringsTo_55 : decode cX13_bringsTo 55 = .ok (.if_icmp .ge 289, 3) := by decide +kernel
theorem dX13_bringsTo_344 : decode cX13_bringsTo 344 = .ok (.iconst (-1), 1) := by decide +kernel
theorem dX13_bringsTo_345 : decode cX13_bringsTo 345 = .ok (.istore 7, 2) := by decide +kernel
theorem dX13_bringsTo_347 : decode cX13_bringsTo 347 = .ok (.iconst 0, 1) := by decide +kernel
theorem dX13_bringsTo_348 : decode cX13_bringsTo 348 = .ok (.istore 8, 2) := by decide +kernel
theorem dX13_bringsTo_350 : decode cX13_bringsTo 350 = .ok (.iload 8, 2) := by decide +kernel
theorem dX13_bringsTo_352 : decode cX13_bringsTo 352 = .ok (.iload 6, 2) := by decide +kernel
theorem dX13_bringsTo_354 : decode cX13_bringsTo 354 = .ok (.if_icmp .gt 82, 3) := by decide +kernel
theorem dX13_bringsTo_357 : decode cX13_bringsTo 357 = .ok (.iload 8, 2) := by decide +kernel
theorem dX13_bringsTo_359 : decode cX13_bringsTo 359 = .ok (.iload 5, 2) := by decide +kernel
theorem dX13_bringsTo_361 : decode cX13_bringsTo 361 = .ok (.if_icmp .ge 6, 3) := by decide +kernel
theorem dX13_bringsTo_367 : decode cX13_bringsTo 367 = .ok (.iload 8, 2) := by decide +kernel
theorem dX13_bringsTo_369 : decode cX13_bringsTo 369 = .ok (.iload 4, 2) := by decide +kernel
theorem dX13_bringsTo_371 : decode cX13_bringsTo 371 = .ok (.if_icmp .ge 11, 3) := by decide +kernel
theorem dX13_bringsTo_382 : decode cX13_bringsTo 382 = .ok (.iload 8, 2) := by decide +kernel
theorem dX13_bringsTo_384 : decode cX13_bringsTo 384 = .ok (.iload 4, 2) := by decide +kernel
theorem dX13_bringsTo_386 : decode cX13_bringsTo 386 = .ok (.isub, 1) := by decide +kernel
theorem dX13_bringsTo_387 : decode cX13_bringsTo 387 = .ok (.istore 9, 2) := by decide +kernel
theorem dX13_bringsTo_389 : decode cX13_bringsTo 389 = .ok (.iload 7, 2) := by decide +kernel
theorem dX13_bringsTo_391 : decode cX13_bringsTo 391 = .ok (.iconst (-1), 1) := by decide +kernel
theorem dX13_bringsTo_392 : decode cX13_bringsTo 392 = .ok (.if_icmp .eq 31, 3) := by decide +kernel
theorem dX13_bringsTo_423 : decode cX13_bringsTo 423 = .ok (.iload 8, 2) := by decide +kernel
theorem dX13_bringsTo_425 : decode cX13_bringsTo 425 = .ok (.istore 7, 2) := by decide +kernel
theorem dX13_bringsTo_427 : decode cX13_bringsTo 427 = .ok (.iload 8, 2) := by decide +kernel
theorem dX13_bringsTo_429 : decode cX13_bringsTo 429 = .ok (.iload_n 2, 1) := by decide +kernel
theorem dX13_bringsTo_430 : decode cX13_bringsTo 430 = .ok (.iadd, 1) := by decide +kernel
theorem dX13_bringsTo_431 : decode cX13_bringsTo 431 = .ok (.istore 8, 2) := by decide +kernel
theorem dX13_bringsTo_433 : decode cX13_bringsTo 433 = .ok (.goto (-83), 3) := by decide +kernel
theorem dX13_bringsTo_436 : decode cX13_bringsTo 436 = .ok (.iload 7, 2) := by decide +kernel
theorem dX13_bringsTo_438 : decode cX13_bringsTo 438 = .ok (.iconst (-1), 1) := by decide +kernel
theorem dX13_bringsTo_439 : decode cX13_bringsTo 439 = .ok (.if_icmp .ne 5, 3) := by decide +kernel
theorem dX13_bringsTo_444 : decode cX13_bringsTo 444 = .ok (.iload 7, 2) := by decide +kernel
theorem dX13_bringsTo_446 : decode cX13_bringsTo 446 = .ok (.iload 4, 2) := by decide +kernel
theorem dX13_bringsTo_448 : decode cX13_bringsTo 448 = .ok (.isub, 1) := by decide +kernel
theorem dX13_bringsTo_449 : decode cX13_bringsTo 449 = .ok (.istore 8, 2) := by decide +kernel
theorem dX13_bringsTo_451 : decode cX13_bringsTo 451 = .ok (.iconst 0, 1) := by decide +kernel
theorem dX13_bringsTo_452 : decode cX13_bringsTo 452 = .ok (.istore 9, 2) := by decide +kernel
theorem dX13_bringsTo_454 : decode cX13_bringsTo 454 = .ok (.iload 9, 2) := by decide +kernel
theorem dX13_bringsTo_456 : decode cX13_bringsTo 456 = .ok (.iload_n 3, 1) := by decide +kernel
theorem dX13_bringsTo_457 : decode cX13_bringsTo 457 = .ok (.if_icmp .ge 197, 3) := by decide +kernel
theorem dX13_bringsTo_654 : decode cX13_bringsTo 654 = .ok (.iload_n 3, 1) := by decide +kernel
theorem dX13_bringsTo_655 : decode cX13_bringsTo 655 = .ok (.ireturn, 1) := by decide +kernel
theorem dX13_lengths_0 : decode cX13_lengths 0 = .ok (.aload_n 0, 1) := by decide +kernel
theorem dX13_lengths_1 : decode cX13_lengths 1 = .ok (.iload_n 1, 1) := by decide +kernel
theorem dX13_lengths_2 : decode cX13_lengths 2 = .ok (.iload_n 2, 1) := by decide +kernel
theorem dX13_lengths_3 : decode cX13_lengths 3 = .ok (.invokevirtual 521, 3) := by decide +kernel
theorem dX13_lengths_6 : decode cX13_lengths 6 = .ok (.iconst (-1), 1) := by decide +kernel
theorem dX13_lengths_7 : decode cX13_lengths 7 = .ok (.if_icmp .ne 7, 3) := by decide +kernel
theorem dX13_lengths_10 : decode cX13_lengths 10 = .ok (.iconst (-1), 1) := by decide +kernel
theorem dX13_lengths_11 : decode cX13_lengths 11 = .ok (.goto 7, 3) := by decide +kernel
theorem dX13_lengths_14 : decode cX13_lengths 14 = .ok (.aload_n 0, 1) := by decide +kernel
theorem dX13_lengths_15 : decode cX13_lengths 15 = .ok (.getfield 515, 3) := by decide +kernel
theorem dX13_lengths_18 : decode cX13_lengths 18 = .ok (.ireturn, 1) := by decide +kernel
theorem dX13_length_0 : decode cX13_length 0 = .ok (.aload_n 0, 1) := by decide +kernel
theorem dX13_length_1 : decode cX13_length 1 = .ok (.iload_n 1, 1) := by decide +kernel
theorem dX13_length_2 : decode cX13_length 2 = .ok (.invokevirtual 467, 3) := by decide +kernel
theorem dX13_length_5 : decode cX13_length 5 = .ok (.ifCond .eq 32, 3) := by decide +kernel
theorem dX13_length_37 : decode cX13_length 37 = .ok (.iconst (-1), 1) := by decide +kernel
theorem dX13_length_38 : decode cX13_length 38 = .ok (.ireturn, 1) := by decide +kernel
theorem dX13_gives_0 : decode cX13_gives 0 = .ok (.iload_n 1, 1) := by decide +kernel
theorem dX13_gives_1 : decode cX13_gives 1 = .ok (.ifCond .le 35, 3) := by decide +kernel
theorem dX13_gives_4 : decode cX13_gives 4 = .ok (.iload_n 2, 1) := by decide +kernel
theorem dX13_gives_5 : decode cX13_gives 5 = .ok (.ifCond .le 31, 3) := by decide +kernel
theorem dX13_gives_8 : decode cX13_gives 8 = .ok (.iload_n 1, 1) := by decide +kernel
theorem dX13_gives_9 : decode cX13_gives 9 = .ok (.ldc_w 524, 3) := by decide +kernel
theorem dX13_gives_12 : decode cX13_gives 12 = .ok (.if_icmp .ge 24, 3) := by decide +kernel
theorem dX13_gives_15 : decode cX13_gives 15 = .ok (.iload_n 2, 1) := by decide +kernel
theorem dX13_gives_16 : decode cX13_gives 16 = .ok (.iconst 1, 1) := by decide +kernel
theorem dX13_gives_17 : decode cX13_gives 17 = .ok (.aload_n 0, 1) := by decide +kernel
theorem dX13_gives_18 : decode cX13_gives 18 = .ok (.getfield 445, 3) := by decide +kernel
theorem dX13_gives_21 : decode cX13_gives 21 = .ok (.ishl, 1) := by decide +kernel
theorem dX13_gives_22 : decode cX13_gives 22 = .ok (.if_icmp .ge 14, 3) := by decide +kernel
theorem dX13_gives_36 : decode cX13_gives 36 = .ok (.iconst 0, 1) := by decide +kernel
theorem dX13_gives_37 : decode cX13_gives 37 = .ok (.ireturn, 1) := by decide +kernel
theorem dX13_giving_0 : decode cX13_giving 0 = .ok (.aload_n 0, 1) := by decide +kernel
theorem dX13_giving_1 : decode cX13_giving 1 = .ok (.iload_n 1, 1) := by decide +kernel
theorem dX13_giving_2 : decode cX13_giving 2 = .ok (.iload_n 2, 1) := by decide +kernel
theorem dX13_giving_3 : decode cX13_giving 3 = .ok (.iload_n 3, 1) := by decide +kernel
theorem dX13_giving_4 : decode cX13_giving 4 = .ok (.invokevirtual 543, 3) := by decide +kernel
theorem dX13_giving_7 : decode cX13_giving 7 = .ok (.ifCond .eq 10, 3) := by decide +kernel
theorem dX13_giving_17 : decode cX13_giving 17 = .ok (.iconst (-1), 1) := by decide +kernel
theorem dX13_giving_18 : decode cX13_giving 18 = .ok (.ireturn, 1) := by decide +kernel
theorem dX13_given_0 : decode cX13_given 0 = .ok (.aload_n 0, 1) := by decide +kernel
theorem dX13_given_1 : decode cX13_given 1 = .ok (.iload_n 1, 1) := by decide +kernel
theorem dX13_given_2 : decode cX13_given 2 = .ok (.iload_n 2, 1) := by decide +kernel
theorem dX13_given_3 : decode cX13_given 3 = .ok (.iload_n 3, 1) := by decide +kernel
theorem dX13_given_4 : decode cX13_given 4 = .ok (.invokevirtual 543, 3) := by decide +kernel
theorem dX13_given_7 : decode cX13_given 7 = .ok (.ifCond .ne 5, 3) := by decide +kernel
theorem dX13_given_10 : decode cX13_given 10 = .ok (.iconst (-1), 1) := by decide +kernel
theorem dX13_given_11 : decode cX13_given 11 = .ok (.ireturn, 1) := by decide +kernel
theorem dX13_index_0 : decode cX13_index 0 = .ok (.iload_n 2, 1) := by decide +kernel
theorem dX13_index_1 : decode cX13_index 1 = .ok (.invokestatic 377, 3) := by decide +kernel
theorem dX13_index_4 : decode cX13_index 4 = .ok (.ifCond .eq 16, 3) := by decide +kernel
theorem dX13_index_7 : decode cX13_index 7 = .ok (.aload_n 0, 1) := by decide +kernel
theorem dX13_index_8 : decode cX13_index 8 = .ok (.getfield 68, 3) := by decide +kernel
theorem dX13_index_11 : decode cX13_index 11 = .ok (.iload_n 2, 1) := by decide +kernel
theorem dX13_index_12 : decode cX13_index 12 = .ok (.baload, 1) := by decide +kernel
theorem dX13_index_13 : decode cX13_index 13 = .ok (.ifCond .eq 7, 3) := by decide +kernel
theorem dX13_index_20 : decode cX13_index 20 = .ok (.iconst (-1), 1) := by decide +kernel
theorem dX13_index_21 : decode cX13_index 21 = .ok (.ireturn, 1) := by decide +kernel
theorem dX13_steal_0 : decode cX13_steal 0 = .ok (.iload_n 1, 1) := by decide +kernel
theorem dX13_steal_1 : decode cX13_steal 1 = .ok (.iconst 0, 1) := by decide +kernel
theorem dX13_steal_2 : decode cX13_steal 2 = .ok (.sipush 999, 3) := by decide +kernel
theorem dX13_steal_5 : decode cX13_steal 5 = .ok (.invokestatic 256, 3) := by decide +kernel
theorem dX13_steal_8 : decode cX13_steal 8 = .ok (.ifCond .eq 12, 3) := by decide +kernel
theorem dX13_steal_11 : decode cX13_steal 11 = .ok (.aload_n 0, 1) := by decide +kernel
theorem dX13_steal_12 : decode cX13_steal 12 = .ok (.getfield 546, 3) := by decide +kernel
theorem dX13_steal_15 : decode cX13_steal 15 = .ok (.bipush 30, 2) := by decide +kernel
theorem dX13_steal_17 : decode cX13_steal 17 = .ok (.if_icmp .ne 5, 3) := by decide +kernel
theorem dX13_steal_20 : decode cX13_steal 20 = .ok (.iconst (-1), 1) := by decide +kernel
theorem dX13_steal_21 : decode cX13_steal 21 = .ok (.ireturn, 1) := by decide +kernel
theorem dX13_steal_22 : decode cX13_steal 22 = .ok (.aload_n 0, 1) := by decide +kernel
theorem dX13_steal_23 : decode cX13_steal 23 = .ok (.getfield 192, 3) := by decide +kernel
theorem dX13_steal_26 : decode cX13_steal 26 = .ok (.aload_n 0, 1) := by decide +kernel
theorem dX13_steal_27 : decode cX13_steal 27 = .ok (.getfield 546, 3) := by decide +kernel
theorem dX13_steal_30 : decode cX13_steal 30 = .ok (.iload_n 1, 1) := by decide +kernel
theorem dX13_steal_31 : decode cX13_steal 31 = .ok (.iastore, 1) := by decide +kernel
theorem dX13_steal_32 : decode cX13_steal 32 = .ok (.aload_n 0, 1) := by decide +kernel
theorem dX13_steal_33 : decode cX13_steal 33 = .ok (.dup, 1) := by decide +kernel
theorem dX13_steal_34 : decode cX13_steal 34 = .ok (.getfield 546, 3) := by decide +kernel
theorem dX13_steal_37 : decode cX13_steal 37 = .ok (.iconst 1, 1) := by decide +kernel
theorem dX13_steal_38 : decode cX13_steal 38 = .ok (.iadd, 1) := by decide +kernel
theorem dX13_steal_39 : decode cX13_steal 39 = .ok (.putfield 546, 3) := by decide +kernel
theorem dX13_steal_42 : decode cX13_steal 42 = .ok (.aload_n 0, 1) := by decide +kernel
theorem dX13_steal_43 : decode cX13_steal 43 = .ok (.getfield 546, 3) := by decide +kernel
theorem dX13_steal_46 : decode cX13_steal 46 = .ok (.ireturn, 1) := by decide +kernel
theorem dX13_forget_0 : decode cX13_forget 0 = .ok (.aload_n 0, 1) := by decide +kernel
theorem dX13_forget_1 : decode cX13_forget 1 = .ok (.getfield 546, 3) := by decide +kernel
theorem dX13_forget_4 : decode cX13_forget 4 = .ok (.istore_n 1, 1) := by decide +kernel
theorem dX13_forget_5 : decode cX13_forget 5 = .ok (.aload_n 0, 1) := by decide +kernel
theorem dX13_forget_6 : decode cX13_forget 6 = .ok (.iconst 0, 1) := by decide +kernel
theorem dX13_forget_7 : decode cX13_forget 7 = .ok (.putfield 546, 3) := by decide +kernel
theorem dX13_forget_10 : decode cX13_forget 10 = .ok (.iload_n 1, 1) := by decide +kernel
theorem dX13_forget_11 : decode cX13_forget 11 = .ok (.ireturn, 1) := by decide +kernel
theorem dX13_thief_0 : decode cX13_thief 0 = .ok (.iload_n 1, 1) := by decide +kernel
theorem dX13_thief_1 : decode cX13_thief 1 = .ok (.invokestatic 377, 3) := by decide +kernel
theorem dX13_thief_4 : decode cX13_thief 4 = .ok (.ifCond .eq 21, 3) := by decide +kernel
theorem dX13_thief_7 : decode cX13_thief 7 = .ok (.aload_n 0, 1) := by decide +kernel
theorem dX13_thief_8 : decode cX13_thief 8 = .ok (.getfield 68, 3) := by decide +kernel
theorem dX13_thief_11 : decode cX13_thief 11 = .ok (.iload_n 1, 1) := by decide +kernel
theorem dX13_thief_12 : decode cX13_thief 12 = .ok (.baload, 1) := by decide +kernel
theorem dX13_thief_13 : decode cX13_thief 13 = .ok (.ifCond .eq 12, 3) := by decide +kernel
theorem dX13_thief_25 : decode cX13_thief 25 = .ok (.iconst (-1), 1) := by decide +kernel
theorem dX13_thief_26 : decode cX13_thief 26 = .ok (.ireturn, 1) := by decide +kernel
theorem dX13_is_0 : decode cX13_is 0 = .ok (.aload_n 0, 1) := by decide +kernel
theorem dX13_is_1 : decode cX13_is 1 = .ok (.iload_n 1, 1) := by decide +kernel
theorem dX13_is_2 : decode cX13_is 2 = .ok (.invokevirtual 421, 3) := by decide +kernel
theorem dX13_is_5 : decode cX13_is 5 = .ok (.ifCond .ne 5, 3) := by decide +kernel
theorem dX13_is_8 : decode cX13_is 8 = .ok (.iconst (-1), 1) := by decide +kernel
theorem dX13_is_9 : decode cX13_is 9 = .ok (.ireturn, 1) := by decide +kernel
theorem dX13_count_0 : decode cX13_count 0 = .ok (.iconst 0, 1) := by decide +kernel
theorem dX13_count_1 : decode cX13_count 1 = .ok (.istore_n 2, 1) := by decide +kernel
theorem dX13_count_2 : decode cX13_count 2 = .ok (.iload_n 1, 1) := by decide +kernel
theorem dX13_count_3 : decode cX13_count 3 = .ok (.bipush 10, 2) := by decide +kernel
theorem dX13_count_5 : decode cX13_count 5 = .ok (.bipush 9, 2) := by decide +kernel
theorem dX13_count_7 : decode cX13_count 7 = .ok (.aload_n 0, 1) := by decide +kernel
theorem dX13_count_8 : decode cX13_count 8 = .ok (.getfield 445, 3) := by decide +kernel
theorem dX13_count_11 : decode cX13_count 11 = .ok (.iadd, 1) := by decide +kernel
theorem dX13_count_12 : decode cX13_count 12 = .ok (.invokestatic 256, 3) := by decide +kernel
theorem dX13_count_15 : decode cX13_count 15 = .ok (.ifCond .eq 47, 3) := by decide +kernel
theorem dX13_count_62 : decode cX13_count 62 = .ok (.iload_n 1, 1) := by decide +kernel
theorem dX13_count_63 : decode cX13_count 63 = .ok (.bipush 30, 2) := by decide +kernel
theorem dX13_count_65 : decode cX13_count 65 = .ok (.bipush 29, 2) := by decide +kernel
theorem dX13_count_67 : decode cX13_count 67 = .ok (.aload_n 0, 1) := by decide +kernel
theorem dX13_count_68 : decode cX13_count 68 = .ok (.getfield 445, 3) := by decide +kernel
theorem dX13_count_71 : decode cX13_count 71 = .ok (.iadd, 1) := by decide +kernel
theorem dX13_count_72 : decode cX13_count 72 = .ok (.invokestatic 256, 3) := by decide +kernel
theorem dX13_count_75 : decode cX13_count 75 = .ok (.ifCond .eq 21, 3) := by decide +kernel
theorem dX13_count_96 : decode cX13_count 96 = .ok (.iload_n 1, 1) := by decide +kernel
theorem dX13_count_97 : decode cX13_count 97 = .ok (.tableswitch 148 0 8 #[51, 56, 61, 66, 71, 76, 81, 116, 121], 51) := by decide +kernel
theorem dX13_count_148 : decode cX13_count 148 = .ok (.aload_n 0, 1) := by decide +kernel
theorem dX13_count_149 : decode cX13_count 149 = .ok (.getfield 383, 3) := by decide +kernel
theorem dX13_count_152 : decode cX13_count 152 = .ok (.ireturn, 1) := by decide +kernel
theorem dX13_count_153 : decode cX13_count 153 = .ok (.aload_n 0, 1) := by decide +kernel
theorem dX13_count_154 : decode cX13_count 154 = .ok (.getfield 418, 3) := by decide +kernel
theorem dX13_count_157 : decode cX13_count 157 = .ok (.ireturn, 1) := by decide +kernel
theorem dX13_count_158 : decode cX13_count 158 = .ok (.aload_n 0, 1) := by decide +kernel
theorem dX13_count_159 : decode cX13_count 159 = .ok (.getfield 445, 3) := by decide +kernel
theorem dX13_count_162 : decode cX13_count 162 = .ok (.ireturn, 1) := by decide +kernel
theorem dX13_count_163 : decode cX13_count 163 = .ok (.aload_n 0, 1) := by decide +kernel
theorem dX13_count_164 : decode cX13_count 164 = .ok (.getfield 452, 3) := by decide +kernel
theorem dX13_count_167 : decode cX13_count 167 = .ok (.ireturn, 1) := by decide +kernel
theorem dX13_count_168 : decode cX13_count 168 = .ok (.aload_n 0, 1) := by decide +kernel
theorem dX13_count_169 : decode cX13_count 169 = .ok (.getfield 374, 3) := by decide +kernel
theorem dX13_count_172 : decode cX13_count 172 = .ok (.ireturn, 1) := by decide +kernel
theorem dX13_count_173 : decode cX13_count 173 = .ok (.aload_n 0, 1) := by decide +kernel
theorem dX13_count_174 : decode cX13_count 174 = .ok (.getfield 488, 3) := by decide +kernel
theorem dX13_count_177 : decode cX13_count 177 = .ok (.ireturn, 1) := by decide +kernel
theorem dX13_count_178 : decode cX13_count 178 = .ok (.iconst 0, 1) := by decide +kernel
theorem dX13_count_179 : decode cX13_count 179 = .ok (.istore_n 3, 1) := by decide +kernel
theorem dX13_count_180 : decode cX13_count 180 = .ok (.iload_n 3, 1) := by decide +kernel
theorem dX13_count_181 : decode cX13_count 181 = .ok (.bipush 6, 2) := by decide +kernel
theorem dX13_count_183 : decode cX13_count 183 = .ok (.if_icmp .ge 28, 3) := by decide +kernel
theorem dX13_count_186 : decode cX13_count 186 = .ok (.iload_n 2, 1) := by decide +kernel
theorem dX13_count_187 : decode cX13_count 187 = .ok (.aload_n 0, 1) := by decide +kernel
theorem dX13_count_188 : decode cX13_count 188 = .ok (.getfield 68, 3) := by decide +kernel
theorem dX13_count_191 : decode cX13_count 191 = .ok (.iload_n 3, 1) := by decide +kernel
theorem dX13_count_192 : decode cX13_count 192 = .ok (.baload, 1) := by decide +kernel
theorem dX13_count_193 : decode cX13_count 193 = .ok (.ifCond .eq 9, 3) := by decide +kernel
theorem dX13_count_202 : decode cX13_count 202 = .ok (.iconst 0, 1) := by decide +kernel
theorem dX13_count_203 : decode cX13_count 203 = .ok (.ior, 1) := by decide +kernel
theorem dX13_count_204 : decode cX13_count 204 = .ok (.istore_n 2, 1) := by decide +kernel
theorem dX13_count_205 : decode cX13_count 205 = .ok (.iinc 3 1, 3) := by decide +kernel
theorem dX13_count_208 : decode cX13_count 208 = .ok (.goto (-28), 3) := by decide +kernel
theorem dX13_count_211 : decode cX13_count 211 = .ok (.iload_n 2, 1) := by decide +kernel
theorem dX13_count_212 : decode cX13_count 212 = .ok (.ireturn, 1) := by decide +kernel
theorem dX13_count_213 : decode cX13_count 213 = .ok (.aload_n 0, 1) := by decide +kernel
theorem dX13_count_214 : decode cX13_count 214 = .ok (.getfield 252, 3) := by decide +kernel
theorem dX13_count_217 : decode cX13_count 217 = .ok (.ireturn, 1) := by decide +kernel
theorem dX13_count_218 : decode cX13_count 218 = .ok (.iconst 0, 1) := by decide +kernel
theorem dX13_count_219 : decode cX13_count 219 = .ok (.istore_n 3, 1) := by decide +kernel
theorem dX13_count_220 : decode cX13_count 220 = .ok (.iload_n 3, 1) := by decide +kernel
theorem dX13_count_221 : decode cX13_count 221 = .ok (.aload_n 0, 1) := by decide +kernel
theorem dX13_count_222 : decode cX13_count 222 = .ok (.getfield 452, 3) := by decide +kernel
theorem dX13_count_225 : decode cX13_count 225 = .ok (.if_icmp .ge 18, 3) := by decide +kernel
theorem dX13_count_243 : decode cX13_count 243 = .ok (.iload_n 2, 1) := by decide +kernel
theorem dX13_count_244 : decode cX13_count 244 = .ok (.ireturn, 1) := by decide +kernel
theorem dX13_count_245 : decode cX13_count 245 = .ok (.iconst (-1), 1) := by decide +kernel
theorem dX13_count_246 : decode cX13_count 246 = .ok (.ireturn, 1) := by decide +kernel
theorem dJ6_bitCount_0f7a4_0 : decode cJ6_bitCount_0f7a4 0 = .ok (.iload_n 0, 1) := by decide +kernel
theorem dJ6_bitCount_0f7a4_1 : decode cJ6_bitCount_0f7a4 1 = .ok (.iload_n 0, 1) := by decide +kernel
theorem dJ6_bitCount_0f7a4_2 : decode cJ6_bitCount_0f7a4 2 = .ok (.iconst 1, 1) := by decide +kernel
theorem dJ6_bitCount_0f7a4_3 : decode cJ6_bitCount_0f7a4 3 = .ok (.iushr, 1) := by decide +kernel
theorem dJ6_bitCount_0f7a4_4 : decode cJ6_bitCount_0f7a4 4 = .ok (.ldc_w 265, 3) := by decide +kernel
theorem dJ6_bitCount_0f7a4_7 : decode cJ6_bitCount_0f7a4 7 = .ok (.iand, 1) := by decide +kernel
theorem dJ6_bitCount_0f7a4_8 : decode cJ6_bitCount_0f7a4 8 = .ok (.isub, 1) := by decide +kernel
theorem dJ6_bitCount_0f7a4_9 : decode cJ6_bitCount_0f7a4 9 = .ok (.istore_n 0, 1) := by decide +kernel
theorem dJ6_bitCount_0f7a4_10 : decode cJ6_bitCount_0f7a4 10 = .ok (.iload_n 0, 1) := by decide +kernel
theorem dJ6_bitCount_0f7a4_11 : decode cJ6_bitCount_0f7a4 11 = .ok (.ldc_w 266, 3) := by decide +kernel
theorem dJ6_bitCount_0f7a4_14 : decode cJ6_bitCount_0f7a4 14 = .ok (.iand, 1) := by decide +kernel
theorem dJ6_bitCount_0f7a4_15 : decode cJ6_bitCount_0f7a4 15 = .ok (.iload_n 0, 1) := by decide +kernel
theorem dJ6_bitCount_0f7a4_16 : decode cJ6_bitCount_0f7a4 16 = .ok (.iconst 2, 1) := by decide +kernel
theorem dJ6_bitCount_0f7a4_17 : decode cJ6_bitCount_0f7a4 17 = .ok (.iushr, 1) := by decide +kernel
theorem dJ6_bitCount_0f7a4_18 : decode cJ6_bitCount_0f7a4 18 = .ok (.ldc_w 266, 3) := by decide +kernel
theorem dJ6_bitCount_0f7a4_21 : decode cJ6_bitCount_0f7a4 21 = .ok (.iand, 1) := by decide +kernel
theorem dJ6_bitCount_0f7a4_22 : decode cJ6_bitCount_0f7a4 22 = .ok (.iadd, 1) := by decide +kernel
theorem dJ6_bitCount_0f7a4_23 : decode cJ6_bitCount_0f7a4 23 = .ok (.istore_n 0, 1) := by decide +kernel
theorem dJ6_bitCount_0f7a4_24 : decode cJ6_bitCount_0f7a4 24 = .ok (.iload_n 0, 1) := by decide +kernel
theorem dJ6_bitCount_0f7a4_25 : decode cJ6_bitCount_0f7a4 25 = .ok (.iload_n 0, 1) := by decide +kernel
theorem dJ6_bitCount_0f7a4_26 : decode cJ6_bitCount_0f7a4 26 = .ok (.iconst 4, 1) := by decide +kernel
theorem dJ6_bitCount_0f7a4_27 : decode cJ6_bitCount_0f7a4 27 = .ok (.iushr, 1) := by decide +kernel
theorem dJ6_bitCount_0f7a4_28 : decode cJ6_bitCount_0f7a4 28 = .ok (.iadd, 1) := by decide +kernel
theorem dJ6_bitCount_0f7a4_29 : decode cJ6_bitCount_0f7a4 29 = .ok (.ldc_w 267, 3) := by decide +kernel
theorem dJ6_bitCount_0f7a4_32 : decode cJ6_bitCount_0f7a4 32 = .ok (.iand, 1) := by decide +kernel
theorem dJ6_bitCount_0f7a4_33 : decode cJ6_bitCount_0f7a4 33 = .ok (.istore_n 0, 1) := by decide +kernel
theorem dJ6_bitCount_0f7a4_34 : decode cJ6_bitCount_0f7a4 34 = .ok (.iload_n 0, 1) := by decide +kernel
theorem dJ6_bitCount_0f7a4_35 : decode cJ6_bitCount_0f7a4 35 = .ok (.iload_n 0, 1) := by decide +kernel
theorem dJ6_bitCount_0f7a4_36 : decode cJ6_bitCount_0f7a4 36 = .ok (.bipush 8, 2) := by decide +kernel
theorem dJ6_bitCount_0f7a4_38 : decode cJ6_bitCount_0f7a4 38 = .ok (.iushr, 1) := by decide +kernel
theorem dJ6_bitCount_0f7a4_39 : decode cJ6_bitCount_0f7a4 39 = .ok (.iadd, 1) := by decide +kernel
theorem dJ6_bitCount_0f7a4_40 : decode cJ6_bitCount_0f7a4 40 = .ok (.istore_n 0, 1) := by decide +kernel
theorem dJ6_bitCount_0f7a4_41 : decode cJ6_bitCount_0f7a4 41 = .ok (.iload_n 0, 1) := by decide +kernel
theorem dJ6_bitCount_0f7a4_42 : decode cJ6_bitCount_0f7a4 42 = .ok (.iload_n 0, 1) := by decide +kernel
theorem dJ6_bitCount_0f7a4_43 : decode cJ6_bitCount_0f7a4 43 = .ok (.bipush 16, 2) := by decide +kernel
theorem dJ6_bitCount_0f7a4_45 : decode cJ6_bitCount_0f7a4 45 = .ok (.iushr, 1) := by decide +kernel
theorem dJ6_bitCount_0f7a4_46 : decode cJ6_bitCount_0f7a4 46 = .ok (.iadd, 1) := by decide +kernel
theorem dJ6_bitCount_0f7a4_47 : decode cJ6_bitCount_0f7a4 47 = .ok (.istore_n 0, 1) := by decide +kernel
theorem dJ6_bitCount_0f7a4_48 : decode cJ6_bitCount_0f7a4 48 = .ok (.iload_n 0, 1) := by decide +kernel
theorem dJ6_bitCount_0f7a4_49 : decode cJ6_bitCount_0f7a4 49 = .ok (.bipush 63, 2) := by decide +kernel
theorem dJ6_bitCount_0f7a4_51 : decode cJ6_bitCount_0f7a4 51 = .ok (.iand, 1) := by decide +kernel
theorem dJ6_bitCount_0f7a4_52 : decode cJ6_bitCount_0f7a4 52 = .ok (.ireturn, 1) := by decide +kernel
theorem dJ7_fill_53178_0 : decode cJ7_fill_53178 0 = .ok (.iconst 0, 1) := by decide +kernel
theorem dJ7_fill_53178_1 : decode cJ7_fill_53178 1 = .ok (.istore_n 2, 1) := by decide +kernel
theorem dJ7_fill_53178_2 : decode cJ7_fill_53178 2 = .ok (.aload_n 0, 1) := by decide +kernel
theorem dJ7_fill_53178_3 : decode cJ7_fill_53178 3 = .ok (.arraylength, 1) := by decide +kernel
theorem dJ7_fill_53178_4 : decode cJ7_fill_53178 4 = .ok (.istore_n 3, 1) := by decide +kernel
theorem dJ7_fill_53178_5 : decode cJ7_fill_53178 5 = .ok (.iload_n 2, 1) := by decide +kernel
theorem dJ7_fill_53178_6 : decode cJ7_fill_53178 6 = .ok (.iload_n 3, 1) := by decide +kernel
theorem dJ7_fill_53178_7 : decode cJ7_fill_53178 7 = .ok (.if_icmp .ge 13, 3) := by decide +kernel
theorem dJ7_fill_53178_10 : decode cJ7_fill_53178 10 = .ok (.aload_n 0, 1) := by decide +kernel
theorem dJ7_fill_53178_11 : decode cJ7_fill_53178 11 = .ok (.iload_n 2, 1) := by decide +kernel
theorem dJ7_fill_53178_12 : decode cJ7_fill_53178 12 = .ok (.iload_n 1, 1) := by decide +kernel
theorem dJ7_fill_53178_13 : decode cJ7_fill_53178 13 = .ok (.iastore, 1) := by decide +kernel
theorem dJ7_fill_53178_14 : decode cJ7_fill_53178 14 = .ok (.iinc 2 1, 3) := by decide +kernel
theorem dJ7_fill_53178_17 : decode cJ7_fill_53178 17 = .ok (.goto (-12), 3) := by decide +kernel
theorem dJ7_fill_53178_20 : decode cJ7_fill_53178 20 = .ok (.return_, 1) := by decide +kernel
theorem dJ7_copyOf_59c91_0 : decode cJ7_copyOf_59c91 0 = .ok (.iload_n 1, 1) := by decide +kernel
theorem dJ7_copyOf_59c91_1 : decode cJ7_copyOf_59c91 1 = .ok (.aload_n 0, 1) := by decide +kernel
theorem dJ7_copyOf_59c91_2 : decode cJ7_copyOf_59c91 2 = .ok (.arraylength, 1) := by decide +kernel
theorem dJ7_copyOf_59c91_3 : decode cJ7_copyOf_59c91 3 = .ok (.if_icmp .ne 11, 3) := by decide +kernel
theorem dJ7_copyOf_59c91_14 : decode cJ7_copyOf_59c91 14 = .ok (.iload_n 1, 1) := by decide +kernel
theorem dJ7_copyOf_59c91_15 : decode cJ7_copyOf_59c91 15 = .ok (.newarray .int, 2) := by decide +kernel
theorem dJ7_copyOf_59c91_17 : decode cJ7_copyOf_59c91 17 = .ok (.astore_n 2, 1) := by decide +kernel
theorem dJ7_copyOf_59c91_18 : decode cJ7_copyOf_59c91 18 = .ok (.aload_n 0, 1) := by decide +kernel
theorem dJ7_copyOf_59c91_19 : decode cJ7_copyOf_59c91 19 = .ok (.iconst 0, 1) := by decide +kernel
theorem dJ7_copyOf_59c91_20 : decode cJ7_copyOf_59c91 20 = .ok (.aload_n 2, 1) := by decide +kernel
theorem dJ7_copyOf_59c91_21 : decode cJ7_copyOf_59c91 21 = .ok (.iconst 0, 1) := by decide +kernel
theorem dJ7_copyOf_59c91_22 : decode cJ7_copyOf_59c91 22 = .ok (.aload_n 0, 1) := by decide +kernel
theorem dJ7_copyOf_59c91_23 : decode cJ7_copyOf_59c91 23 = .ok (.arraylength, 1) := by decide +kernel
theorem dJ7_copyOf_59c91_24 : decode cJ7_copyOf_59c91 24 = .ok (.iload_n 1, 1) := by decide +kernel
theorem dJ7_copyOf_59c91_25 : decode cJ7_copyOf_59c91 25 = .ok (.invokestatic 304, 3) := by decide +kernel
theorem dJ7_copyOf_59c91_28 : decode cJ7_copyOf_59c91 28 = .ok (.invokestatic 150, 3) := by decide +kernel
theorem dJ7_copyOf_59c91_31 : decode cJ7_copyOf_59c91 31 = .ok (.aload_n 2, 1) := by decide +kernel
theorem dJ7_copyOf_59c91_32 : decode cJ7_copyOf_59c91 32 = .ok (.areturn, 1) := by decide +kernel
theorem dJ7_copyOf_c38d5_0 : decode cJ7_copyOf_c38d5 0 = .ok (.iload_n 1, 1) := by decide +kernel
theorem dJ7_copyOf_c38d5_1 : decode cJ7_copyOf_c38d5 1 = .ok (.aload_n 0, 1) := by decide +kernel
theorem dJ7_copyOf_c38d5_2 : decode cJ7_copyOf_c38d5 2 = .ok (.arraylength, 1) := by decide +kernel
theorem dJ7_copyOf_c38d5_3 : decode cJ7_copyOf_c38d5 3 = .ok (.if_icmp .ne 11, 3) := by decide +kernel
theorem dJ7_copyOf_c38d5_14 : decode cJ7_copyOf_c38d5 14 = .ok (.iload_n 1, 1) := by decide +kernel
theorem dJ7_copyOf_c38d5_15 : decode cJ7_copyOf_c38d5 15 = .ok (.newarray .long, 2) := by decide +kernel
theorem dJ7_copyOf_c38d5_17 : decode cJ7_copyOf_c38d5 17 = .ok (.astore_n 2, 1) := by decide +kernel
theorem dJ7_copyOf_c38d5_18 : decode cJ7_copyOf_c38d5 18 = .ok (.aload_n 0, 1) := by decide +kernel
theorem dJ7_copyOf_c38d5_19 : decode cJ7_copyOf_c38d5 19 = .ok (.iconst 0, 1) := by decide +kernel
theorem dJ7_copyOf_c38d5_20 : decode cJ7_copyOf_c38d5 20 = .ok (.aload_n 2, 1) := by decide +kernel
theorem dJ7_copyOf_c38d5_21 : decode cJ7_copyOf_c38d5 21 = .ok (.iconst 0, 1) := by decide +kernel
theorem dJ7_copyOf_c38d5_22 : decode cJ7_copyOf_c38d5 22 = .ok (.aload_n 0, 1) := by decide +kernel
theorem dJ7_copyOf_c38d5_23 : decode cJ7_copyOf_c38d5 23 = .ok (.arraylength, 1) := by decide +kernel
theorem dJ7_copyOf_c38d5_24 : decode cJ7_copyOf_c38d5 24 = .ok (.iload_n 1, 1) := by decide +kernel
theorem dJ7_copyOf_c38d5_25 : decode cJ7_copyOf_c38d5 25 = .ok (.invokestatic 304, 3) := by decide +kernel
theorem dJ7_copyOf_c38d5_28 : decode cJ7_copyOf_c38d5 28 = .ok (.invokestatic 150, 3) := by decide +kernel
theorem dJ7_copyOf_c38d5_31 : decode cJ7_copyOf_c38d5 31 = .ok (.aload_n 2, 1) := by decide +kernel
theorem dJ7_copyOf_c38d5_32 : decode cJ7_copyOf_c38d5 32 = .ok (.areturn, 1) := by decide +kernel
theorem dL_law_0 : decode cL_law 0 = .ok (.new 7, 3) := by decide +kernel
theorem dL_law_3 : decode cL_law 3 = .ok (.dup, 1) := by decide +kernel
theorem dL_law_4 : decode cL_law 4 = .ok (.invokespecial 9, 3) := by decide +kernel
theorem dL_law_7 : decode cL_law 7 = .ok (.astore_n 1, 1) := by decide +kernel
theorem dL_law_8 : decode cL_law 8 = .ok (.new 10, 3) := by decide +kernel
theorem dL_law_11 : decode cL_law 11 = .ok (.dup, 1) := by decide +kernel
theorem dL_law_12 : decode cL_law 12 = .ok (.invokespecial 12, 3) := by decide +kernel
theorem dL_law_15 : decode cL_law 15 = .ok (.astore_n 2, 1) := by decide +kernel
theorem dL_law_16 : decode cL_law 16 = .ok (.iconst 0, 1) := by decide +kernel
theorem dL_law_17 : decode cL_law 17 = .ok (.istore_n 3, 1) := by decide +kernel
theorem dL_law_18 : decode cL_law 18 = .ok (.iload_n 3, 1) := by decide +kernel
theorem dL_law_19 : decode cL_law 19 = .ok (.aload_n 0, 1) := by decide +kernel
theorem dL_law_20 : decode cL_law 20 = .ok (.arraylength, 1) := by decide +kernel
theorem dL_law_21 : decode cL_law 21 = .ok (.bipush 6, 2) := by decide +kernel
theorem dL_law_23 : decode cL_law 23 = .ok (.isub, 1) := by decide +kernel
theorem dL_law_24 : decode cL_law 24 = .ok (.if_icmp .gt 1786, 3) := by decide +kernel
theorem dL_law_27 : decode cL_law 27 = .ok (.aload_n 0, 1) := by decide +kernel
theorem dL_law_28 : decode cL_law 28 = .ok (.iload_n 3, 1) := by decide +kernel
theorem dL_law_29 : decode cL_law 29 = .ok (.iaload, 1) := by decide +kernel
theorem dL_law_30 : decode cL_law 30 = .ok (.bipush 63, 2) := by decide +kernel
theorem dL_law_32 : decode cL_law 32 = .ok (.iand, 1) := by decide +kernel
theorem dL_law_33 : decode cL_law 33 = .ok (.tableswitch 1771 0 47 #[207, 270, 293, 306, 319, 352, 395, 418, 451, 504, 557, 620, 653, 676, 699, 722, 755, 788, 831, 864, 897, 940, 963, 986, 1029, 1072, 1105, 1128, 1151, 1194, 1217, 1250, 1273, 1296, 1319, 1342, 1365, 1408, 1441, 1474, 1507, 1550, 1603, 1646, 1669, 1682, 1715, 1748], 207) := by decide +kernel
theorem dL_law_240 : decode cL_law 240 = .ok (.aload_n 1, 1) := by decide +kernel
theorem dL_law_241 : decode cL_law 241 = .ok (.aload_n 0, 1) := by decide +kernel
theorem dL_law_242 : decode cL_law 242 = .ok (.iload_n 3, 1) := by decide +kernel
theorem dL_law_243 : decode cL_law 243 = .ok (.iconst 1, 1) := by decide +kernel
theorem dL_law_244 : decode cL_law 244 = .ok (.iadd, 1) := by decide +kernel
theorem dL_law_245 : decode cL_law 245 = .ok (.iaload, 1) := by decide +kernel
theorem dL_law_246 : decode cL_law 246 = .ok (.aload_n 0, 1) := by decide +kernel
theorem dL_law_247 : decode cL_law 247 = .ok (.iload_n 3, 1) := by decide +kernel
theorem dL_law_248 : decode cL_law 248 = .ok (.iconst 2, 1) := by decide +kernel
theorem dL_law_249 : decode cL_law 249 = .ok (.iadd, 1) := by decide +kernel
theorem dL_law_250 : decode cL_law 250 = .ok (.iaload, 1) := by decide +kernel
theorem dL_law_251 : decode cL_law 251 = .ok (.aload_n 0, 1) := by decide +kernel
theorem dL_law_252 : decode cL_law 252 = .ok (.iload_n 3, 1) := by decide +kernel
theorem dL_law_253 : decode cL_law 253 = .ok (.iconst 3, 1) := by decide +kernel
theorem dL_law_254 : decode cL_law 254 = .ok (.iadd, 1) := by decide +kernel
theorem dL_law_255 : decode cL_law 255 = .ok (.iaload, 1) := by decide +kernel
theorem dL_law_256 : decode cL_law 256 = .ok (.aload_n 0, 1) := by decide +kernel
theorem dL_law_257 : decode cL_law 257 = .ok (.iload_n 3, 1) := by decide +kernel
theorem dL_law_258 : decode cL_law 258 = .ok (.iconst 4, 1) := by decide +kernel
theorem dL_law_259 : decode cL_law 259 = .ok (.iadd, 1) := by decide +kernel
theorem dL_law_260 : decode cL_law 260 = .ok (.iaload, 1) := by decide +kernel
theorem dL_law_261 : decode cL_law 261 = .ok (.aload_n 0, 1) := by decide +kernel
theorem dL_law_262 : decode cL_law 262 = .ok (.iload_n 3, 1) := by decide +kernel
theorem dL_law_263 : decode cL_law 263 = .ok (.iconst 5, 1) := by decide +kernel
theorem dL_law_264 : decode cL_law 264 = .ok (.iadd, 1) := by decide +kernel
theorem dL_law_265 : decode cL_law 265 = .ok (.iaload, 1) := by decide +kernel
theorem dL_law_266 : decode cL_law 266 = .ok (.invokevirtual 13, 3) := by decide +kernel
theorem dL_law_269 : decode cL_law 269 = .ok (.aload_n 2, 1) := by decide +kernel
theorem dL_law_270 : decode cL_law 270 = .ok (.aload_n 0, 1) := by decide +kernel
theorem dL_law_271 : decode cL_law 271 = .ok (.iload_n 3, 1) := by decide +kernel
theorem dL_law_272 : decode cL_law 272 = .ok (.iconst 1, 1) := by decide +kernel
theorem dL_law_273 : decode cL_law 273 = .ok (.iadd, 1) := by decide +kernel
theorem dL_law_274 : decode cL_law 274 = .ok (.iaload, 1) := by decide +kernel
theorem dL_law_275 : decode cL_law 275 = .ok (.aload_n 0, 1) := by decide +kernel
theorem dL_law_276 : decode cL_law 276 = .ok (.iload_n 3, 1) := by decide +kernel
theorem dL_law_277 : decode cL_law 277 = .ok (.iconst 2, 1) := by decide +kernel
theorem dL_law_278 : decode cL_law 278 = .ok (.iadd, 1) := by decide +kernel
theorem dL_law_279 : decode cL_law 279 = .ok (.iaload, 1) := by decide +kernel
theorem dL_law_280 : decode cL_law 280 = .ok (.aload_n 0, 1) := by decide +kernel
theorem dL_law_281 : decode cL_law 281 = .ok (.iload_n 3, 1) := by decide +kernel
theorem dL_law_282 : decode cL_law 282 = .ok (.iconst 3, 1) := by decide +kernel
theorem dL_law_283 : decode cL_law 283 = .ok (.iadd, 1) := by decide +kernel
theorem dL_law_284 : decode cL_law 284 = .ok (.iaload, 1) := by decide +kernel
theorem dL_law_285 : decode cL_law 285 = .ok (.aload_n 0, 1) := by decide +kernel
theorem dL_law_286 : decode cL_law 286 = .ok (.iload_n 3, 1) := by decide +kernel
theorem dL_law_287 : decode cL_law 287 = .ok (.iconst 4, 1) := by decide +kernel
theorem dL_law_288 : decode cL_law 288 = .ok (.iadd, 1) := by decide +kernel
theorem dL_law_289 : decode cL_law 289 = .ok (.iaload, 1) := by decide +kernel
theorem dL_law_290 : decode cL_law 290 = .ok (.aload_n 0, 1) := by decide +kernel
theorem dL_law_291 : decode cL_law 291 = .ok (.iload_n 3, 1) := by decide +kernel
theorem dL_law_292 : decode cL_law 292 = .ok (.iconst 5, 1) := by decide +kernel
theorem dL_law_293 : decode cL_law 293 = .ok (.iadd, 1) := by decide +kernel
theorem dL_law_294 : decode cL_law 294 = .ok (.iaload, 1) := by decide +kernel
theorem dL_law_295 : decode cL_law 295 = .ok (.invokevirtual 17, 3) := by decide +kernel
theorem dL_law_298 : decode cL_law 298 = .ok (.if_icmp .eq 1506, 3) := by decide +kernel
theorem dL_law_301 : decode cL_law 301 = .ok (.iconst 0, 1) := by decide +kernel
theorem dL_law_302 : decode cL_law 302 = .ok (.ireturn, 1) := by decide +kernel
theorem dL_law_303 : decode cL_law 303 = .ok (.aload_n 1, 1) := by decide +kernel
theorem dL_law_304 : decode cL_law 304 = .ok (.aload_n 0, 1) := by decide +kernel
theorem dL_law_305 : decode cL_law 305 = .ok (.iload_n 3, 1) := by decide +kernel
theorem dL_law_306 : decode cL_law 306 = .ok (.iconst 1, 1) := by decide +kernel
theorem dL_law_307 : decode cL_law 307 = .ok (.iadd, 1) := by decide +kernel
theorem dL_law_308 : decode cL_law 308 = .ok (.iaload, 1) := by decide +kernel
theorem dL_law_309 : decode cL_law 309 = .ok (.invokevirtual 18, 3) := by decide +kernel
theorem dL_law_312 : decode cL_law 312 = .ok (.aload_n 2, 1) := by decide +kernel
theorem dL_law_313 : decode cL_law 313 = .ok (.aload_n 0, 1) := by decide +kernel
theorem dL_law_314 : decode cL_law 314 = .ok (.iload_n 3, 1) := by decide +kernel
theorem dL_law_315 : decode cL_law 315 = .ok (.iconst 1, 1) := by decide +kernel
theorem dL_law_316 : decode cL_law 316 = .ok (.iadd, 1) := by decide +kernel
theorem dL_law_317 : decode cL_law 317 = .ok (.iaload, 1) := by decide +kernel
theorem dL_law_318 : decode cL_law 318 = .ok (.invokevirtual 22, 3) := by decide +kernel
theorem dL_law_321 : decode cL_law 321 = .ok (.if_icmp .eq 1483, 3) := by decide +kernel
theorem dL_law_324 : decode cL_law 324 = .ok (.iconst 0, 1) := by decide +kernel
theorem dL_law_325 : decode cL_law 325 = .ok (.ireturn, 1) := by decide +kernel
theorem dL_law_326 : decode cL_law 326 = .ok (.aload_n 1, 1) := by decide +kernel
theorem dL_law_327 : decode cL_law 327 = .ok (.invokevirtual 23, 3) := by decide +kernel
theorem dL_law_330 : decode cL_law 330 = .ok (.aload_n 2, 1) := by decide +kernel
theorem dL_law_331 : decode cL_law 331 = .ok (.invokevirtual 27, 3) := by decide +kernel
theorem dL_law_334 : decode cL_law 334 = .ok (.if_icmp .eq 1470, 3) := by decide +kernel
theorem dL_law_337 : decode cL_law 337 = .ok (.iconst 0, 1) := by decide +kernel
theorem dL_law_338 : decode cL_law 338 = .ok (.ireturn, 1) := by decide +kernel
theorem dL_law_339 : decode cL_law 339 = .ok (.aload_n 1, 1) := by decide +kernel
theorem dL_law_340 : decode cL_law 340 = .ok (.invokevirtual 28, 3) := by decide +kernel
theorem dL_law_343 : decode cL_law 343 = .ok (.aload_n 2, 1) := by decide +kernel
theorem dL_law_344 : decode cL_law 344 = .ok (.invokevirtual 31, 3) := by decide +kernel
theorem dL_law_347 : decode cL_law 347 = .ok (.if_icmp .eq 1457, 3) := by decide +kernel
theorem dL_law_350 : decode cL_law 350 = .ok (.iconst 0, 1) := by decide +kernel
theorem dL_law_351 : decode cL_law 351 = .ok (.ireturn, 1) := by decide +kernel
theorem dL_law_352 : decode cL_law 352 = .ok (.aload_n 1, 1) := by decide +kernel
theorem dL_law_353 : decode cL_law 353 = .ok (.aload_n 0, 1) := by decide +kernel
theorem dL_law_354 : decode cL_law 354 = .ok (.iload_n 3, 1) := by decide +kernel
theorem dL_law_355 : decode cL_law 355 = .ok (.iconst 1, 1) := by decide +kernel
theorem dL_law_356 : decode cL_law 356 = .ok (.iadd, 1) := by decide +kernel
theorem dL_law_357 : decode cL_law 357 = .ok (.iaload, 1) := by decide +kernel
theorem dL_law_358 : decode cL_law 358 = .ok (.aload_n 0, 1) := by decide +kernel
theorem dL_law_359 : decode cL_law 359 = .ok (.iload_n 3, 1) := by decide +kernel
theorem dL_law_360 : decode cL_law 360 = .ok (.iconst 2, 1) := by decide +kernel
theorem dL_law_361 : decode cL_law 361 = .ok (.iadd, 1) := by decide +kernel
theorem dL_law_362 : decode cL_law 362 = .ok (.iaload, 1) := by decide +kernel
theorem dL_law_363 : decode cL_law 363 = .ok (.invokevirtual 32, 3) := by decide +kernel
theorem dL_law_366 : decode cL_law 366 = .ok (.aload_n 2, 1) := by decide +kernel
theorem dL_law_367 : decode cL_law 367 = .ok (.aload_n 0, 1) := by decide +kernel
theorem dL_law_368 : decode cL_law 368 = .ok (.iload_n 3, 1) := by decide +kernel
theorem dL_law_369 : decode cL_law 369 = .ok (.iconst 1, 1) := by decide +kernel
theorem dL_law_370 : decode cL_law 370 = .ok (.iadd, 1) := by decide +kernel
theorem dL_law_371 : decode cL_law 371 = .ok (.iaload, 1) := by decide +kernel
theorem dL_law_372 : decode cL_law 372 = .ok (.aload_n 0, 1) := by decide +kernel
theorem dL_law_373 : decode cL_law 373 = .ok (.iload_n 3, 1) := by decide +kernel
theorem dL_law_374 : decode cL_law 374 = .ok (.iconst 2, 1) := by decide +kernel
theorem dL_law_375 : decode cL_law 375 = .ok (.iadd, 1) := by decide +kernel
theorem dL_law_376 : decode cL_law 376 = .ok (.iaload, 1) := by decide +kernel
theorem dL_law_377 : decode cL_law 377 = .ok (.invokevirtual 36, 3) := by decide +kernel
theorem dL_law_380 : decode cL_law 380 = .ok (.if_icmp .eq 1424, 3) := by decide +kernel
theorem dL_law_383 : decode cL_law 383 = .ok (.iconst 0, 1) := by decide +kernel
theorem dL_law_384 : decode cL_law 384 = .ok (.ireturn, 1) := by decide +kernel
theorem dL_law_385 : decode cL_law 385 = .ok (.aload_n 1, 1) := by decide +kernel
theorem dL_law_386 : decode cL_law 386 = .ok (.aload_n 0, 1) := by decide +kernel
theorem dL_law_387 : decode cL_law 387 = .ok (.iload_n 3, 1) := by decide +kernel
theorem dL_law_388 : decode cL_law 388 = .ok (.iconst 1, 1) := by decide +kernel
theorem dL_law_389 : decode cL_law 389 = .ok (.iadd, 1) := by decide +kernel
theorem dL_law_390 : decode cL_law 390 = .ok (.iaload, 1) := by decide +kernel
theorem dL_law_391 : decode cL_law 391 = .ok (.aload_n 0, 1) := by decide +kernel
theorem dL_law_392 : decode cL_law 392 = .ok (.iload_n 3, 1) := by decide +kernel
theorem dL_law_393 : decode cL_law 393 = .ok (.iconst 2, 1) := by decide +kernel
theorem dL_law_394 : decode cL_law 394 = .ok (.iadd, 1) := by decide +kernel
theorem dL_law_395 : decode cL_law 395 = .ok (.iaload, 1) := by decide +kernel
theorem dL_law_396 : decode cL_law 396 = .ok (.aload_n 0, 1) := by decide +kernel
theorem dL_law_397 : decode cL_law 397 = .ok (.iload_n 3, 1) := by decide +kernel
theorem dL_law_398 : decode cL_law 398 = .ok (.iconst 3, 1) := by decide +kernel
theorem dL_law_399 : decode cL_law 399 = .ok (.iadd, 1) := by decide +kernel
theorem dL_law_400 : decode cL_law 400 = .ok (.iaload, 1) := by decide +kernel
theorem dL_law_401 : decode cL_law 401 = .ok (.invokevirtual 37, 3) := by decide +kernel
theorem dL_law_404 : decode cL_law 404 = .ok (.aload_n 2, 1) := by decide +kernel
theorem dL_law_405 : decode cL_law 405 = .ok (.aload_n 0, 1) := by decide +kernel
theorem dL_law_406 : decode cL_law 406 = .ok (.iload_n 3, 1) := by decide +kernel
theorem dL_law_407 : decode cL_law 407 = .ok (.iconst 1, 1) := by decide +kernel
theorem dL_law_408 : decode cL_law 408 = .ok (.iadd, 1) := by decide +kernel
theorem dL_law_409 : decode cL_law 409 = .ok (.iaload, 1) := by decide +kernel
theorem dL_law_410 : decode cL_law 410 = .ok (.aload_n 0, 1) := by decide +kernel
theorem dL_law_411 : decode cL_law 411 = .ok (.iload_n 3, 1) := by decide +kernel
theorem dL_law_412 : decode cL_law 412 = .ok (.iconst 2, 1) := by decide +kernel
theorem dL_law_413 : decode cL_law 413 = .ok (.iadd, 1) := by decide +kernel
theorem dL_law_414 : decode cL_law 414 = .ok (.iaload, 1) := by decide +kernel
theorem dL_law_415 : decode cL_law 415 = .ok (.aload_n 0, 1) := by decide +kernel
theorem dL_law_416 : decode cL_law 416 = .ok (.iload_n 3, 1) := by decide +kernel
theorem dL_law_417 : decode cL_law 417 = .ok (.iconst 3, 1) := by decide +kernel
theorem dL_law_418 : decode cL_law 418 = .ok (.iadd, 1) := by decide +kernel
theorem dL_law_419 : decode cL_law 419 = .ok (.iaload, 1) := by decide +kernel
theorem dL_law_420 : decode cL_law 420 = .ok (.invokevirtual 41, 3) := by decide +kernel
theorem dL_law_423 : decode cL_law 423 = .ok (.if_icmp .eq 1381, 3) := by decide +kernel
theorem dL_law_426 : decode cL_law 426 = .ok (.iconst 0, 1) := by decide +kernel
theorem dL_law_427 : decode cL_law 427 = .ok (.ireturn, 1) := by decide +kernel
theorem dL_law_428 : decode cL_law 428 = .ok (.aload_n 1, 1) := by decide +kernel
theorem dL_law_429 : decode cL_law 429 = .ok (.aload_n 0, 1) := by decide +kernel
theorem dL_law_430 : decode cL_law 430 = .ok (.iload_n 3, 1) := by decide +kernel
theorem dL_law_431 : decode cL_law 431 = .ok (.iconst 1, 1) := by decide +kernel
theorem dL_law_432 : decode cL_law 432 = .ok (.iadd, 1) := by decide +kernel
theorem dL_law_433 : decode cL_law 433 = .ok (.iaload, 1) := by decide +kernel
theorem dL_law_434 : decode cL_law 434 = .ok (.invokevirtual 42, 3) := by decide +kernel
theorem dL_law_437 : decode cL_law 437 = .ok (.aload_n 2, 1) := by decide +kernel
theorem dL_law_438 : decode cL_law 438 = .ok (.aload_n 0, 1) := by decide +kernel
theorem dL_law_439 : decode cL_law 439 = .ok (.iload_n 3, 1) := by decide +kernel
theorem dL_law_440 : decode cL_law 440 = .ok (.iconst 1, 1) := by decide +kernel
theorem dL_law_441 : decode cL_law 441 = .ok (.iadd, 1) := by decide +kernel
theorem dL_law_442 : decode cL_law 442 = .ok (.iaload, 1) := by decide +kernel
theorem dL_law_443 : decode cL_law 443 = .ok (.invokevirtual 46, 3) := by decide +kernel
theorem dL_law_446 : decode cL_law 446 = .ok (.if_icmp .eq 1358, 3) := by decide +kernel
theorem dL_law_449 : decode cL_law 449 = .ok (.iconst 0, 1) := by decide +kernel
theorem dL_law_450 : decode cL_law 450 = .ok (.ireturn, 1) := by decide +kernel
theorem dL_law_451 : decode cL_law 451 = .ok (.aload_n 1, 1) := by decide +kernel
theorem dL_law_452 : decode cL_law 452 = .ok (.aload_n 0, 1) := by decide +kernel
theorem dL_law_453 : decode cL_law 453 = .ok (.iload_n 3, 1) := by decide +kernel
theorem dL_law_454 : decode cL_law 454 = .ok (.iconst 1, 1) := by decide +kernel
theorem dL_law_455 : decode cL_law 455 = .ok (.iadd, 1) := by decide +kernel
theorem dL_law_456 : decode cL_law 456 = .ok (.iaload, 1) := by decide +kernel
theorem dL_law_457 : decode cL_law 457 = .ok (.aload_n 0, 1) := by decide +kernel
theorem dL_law_458 : decode cL_law 458 = .ok (.iload_n 3, 1) := by decide +kernel
theorem dL_law_459 : decode cL_law 459 = .ok (.iconst 2, 1) := by decide +kernel
theorem dL_law_460 : decode cL_law 460 = .ok (.iadd, 1) := by decide +kernel
theorem dL_law_461 : decode cL_law 461 = .ok (.iaload, 1) := by decide +kernel
theorem dL_law_462 : decode cL_law 462 = .ok (.invokevirtual 47, 3) := by decide +kernel
theorem dL_law_465 : decode cL_law 465 = .ok (.aload_n 2, 1) := by decide +kernel
theorem dL_law_466 : decode cL_law 466 = .ok (.aload_n 0, 1) := by decide +kernel
theorem dL_law_467 : decode cL_law 467 = .ok (.iload_n 3, 1) := by decide +kernel
theorem dL_law_468 : decode cL_law 468 = .ok (.iconst 1, 1) := by decide +kernel
theorem dL_law_469 : decode cL_law 469 = .ok (.iadd, 1) := by decide +kernel
theorem dL_law_470 : decode cL_law 470 = .ok (.iaload, 1) := by decide +kernel
theorem dL_law_471 : decode cL_law 471 = .ok (.aload_n 0, 1) := by decide +kernel
theorem dL_law_472 : decode cL_law 472 = .ok (.iload_n 3, 1) := by decide +kernel
theorem dL_law_473 : decode cL_law 473 = .ok (.iconst 2, 1) := by decide +kernel
theorem dL_law_474 : decode cL_law 474 = .ok (.iadd, 1) := by decide +kernel
theorem dL_law_475 : decode cL_law 475 = .ok (.iaload, 1) := by decide +kernel
theorem dL_law_476 : decode cL_law 476 = .ok (.invokevirtual 51, 3) := by decide +kernel
theorem dL_law_479 : decode cL_law 479 = .ok (.if_icmp .eq 1325, 3) := by decide +kernel
theorem dL_law_482 : decode cL_law 482 = .ok (.iconst 0, 1) := by decide +kernel
theorem dL_law_483 : decode cL_law 483 = .ok (.ireturn, 1) := by decide +kernel
theorem dL_law_484 : decode cL_law 484 = .ok (.aload_n 1, 1) := by decide +kernel
theorem dL_law_485 : decode cL_law 485 = .ok (.aload_n 0, 1) := by decide +kernel
theorem dL_law_486 : decode cL_law 486 = .ok (.iload_n 3, 1) := by decide +kernel
theorem dL_law_487 : decode cL_law 487 = .ok (.iconst 1, 1) := by decide +kernel
theorem dL_law_488 : decode cL_law 488 = .ok (.iadd, 1) := by decide +kernel
theorem dL_law_489 : decode cL_law 489 = .ok (.iaload, 1) := by decide +kernel
theorem dL_law_490 : decode cL_law 490 = .ok (.aload_n 0, 1) := by decide +kernel
theorem dL_law_491 : decode cL_law 491 = .ok (.iload_n 3, 1) := by decide +kernel
theorem dL_law_492 : decode cL_law 492 = .ok (.iconst 2, 1) := by decide +kernel
theorem dL_law_493 : decode cL_law 493 = .ok (.iadd, 1) := by decide +kernel
theorem dL_law_494 : decode cL_law 494 = .ok (.iaload, 1) := by decide +kernel
theorem dL_law_495 : decode cL_law 495 = .ok (.aload_n 0, 1) := by decide +kernel
theorem dL_law_496 : decode cL_law 496 = .ok (.iload_n 3, 1) := by decide +kernel
theorem dL_law_497 : decode cL_law 497 = .ok (.iconst 3, 1) := by decide +kernel
theorem dL_law_498 : decode cL_law 498 = .ok (.iadd, 1) := by decide +kernel
theorem dL_law_499 : decode cL_law 499 = .ok (.iaload, 1) := by decide +kernel
theorem dL_law_500 : decode cL_law 500 = .ok (.aload_n 0, 1) := by decide +kernel
theorem dL_law_501 : decode cL_law 501 = .ok (.iload_n 3, 1) := by decide +kernel
theorem dL_law_502 : decode cL_law 502 = .ok (.iconst 4, 1) := by decide +kernel
theorem dL_law_503 : decode cL_law 503 = .ok (.iadd, 1) := by decide +kernel
theorem dL_law_504 : decode cL_law 504 = .ok (.iaload, 1) := by decide +kernel
theorem dL_law_505 : decode cL_law 505 = .ok (.invokevirtual 52, 3) := by decide +kernel
theorem dL_law_508 : decode cL_law 508 = .ok (.aload_n 2, 1) := by decide +kernel
theorem dL_law_509 : decode cL_law 509 = .ok (.aload_n 0, 1) := by decide +kernel
theorem dL_law_510 : decode cL_law 510 = .ok (.iload_n 3, 1) := by decide +kernel
theorem dL_law_511 : decode cL_law 511 = .ok (.iconst 1, 1) := by decide +kernel
theorem dL_law_512 : decode cL_law 512 = .ok (.iadd, 1) := by decide +kernel
theorem dL_law_513 : decode cL_law 513 = .ok (.iaload, 1) := by decide +kernel
theorem dL_law_514 : decode cL_law 514 = .ok (.aload_n 0, 1) := by decide +kernel
theorem dL_law_515 : decode cL_law 515 = .ok (.iload_n 3, 1) := by decide +kernel
theorem dL_law_516 : decode cL_law 516 = .ok (.iconst 2, 1) := by decide +kernel
theorem dL_law_517 : decode cL_law 517 = .ok (.iadd, 1) := by decide +kernel
theorem dL_law_518 : decode cL_law 518 = .ok (.iaload, 1) := by decide +kernel
theorem dL_law_519 : decode cL_law 519 = .ok (.aload_n 0, 1) := by decide +kernel
theorem dL_law_520 : decode cL_law 520 = .ok (.iload_n 3, 1) := by decide +kernel
theorem dL_law_521 : decode cL_law 521 = .ok (.iconst 3, 1) := by decide +kernel
theorem dL_law_522 : decode cL_law 522 = .ok (.iadd, 1) := by decide +kernel
theorem dL_law_523 : decode cL_law 523 = .ok (.iaload, 1) := by decide +kernel
theorem dL_law_524 : decode cL_law 524 = .ok (.aload_n 0, 1) := by decide +kernel
theorem dL_law_525 : decode cL_law 525 = .ok (.iload_n 3, 1) := by decide +kernel
theorem dL_law_526 : decode cL_law 526 = .ok (.iconst 4, 1) := by decide +kernel
theorem dL_law_527 : decode cL_law 527 = .ok (.iadd, 1) := by decide +kernel
theorem dL_law_528 : decode cL_law 528 = .ok (.iaload, 1) := by decide +kernel
theorem dL_law_529 : decode cL_law 529 = .ok (.invokevirtual 56, 3) := by decide +kernel
theorem dL_law_532 : decode cL_law 532 = .ok (.if_icmp .eq 1272, 3) := by decide +kernel
theorem dL_law_535 : decode cL_law 535 = .ok (.iconst 0, 1) := by decide +kernel
theorem dL_law_536 : decode cL_law 536 = .ok (.ireturn, 1) := by decide +kernel
theorem dL_law_537 : decode cL_law 537 = .ok (.aload_n 1, 1) := by decide +kernel
theorem dL_law_538 : decode cL_law 538 = .ok (.aload_n 0, 1) := by decide +kernel
theorem dL_law_539 : decode cL_law 539 = .ok (.iload_n 3, 1) := by decide +kernel
theorem dL_law_540 : decode cL_law 540 = .ok (.iconst 1, 1) := by decide +kernel
theorem dL_law_541 : decode cL_law 541 = .ok (.iadd, 1) := by decide +kernel
theorem dL_law_542 : decode cL_law 542 = .ok (.iaload, 1) := by decide +kernel
theorem dL_law_543 : decode cL_law 543 = .ok (.aload_n 0, 1) := by decide +kernel
theorem dL_law_544 : decode cL_law 544 = .ok (.iload_n 3, 1) := by decide +kernel
theorem dL_law_545 : decode cL_law 545 = .ok (.iconst 2, 1) := by decide +kernel
theorem dL_law_546 : decode cL_law 546 = .ok (.iadd, 1) := by decide +kernel
theorem dL_law_547 : decode cL_law 547 = .ok (.iaload, 1) := by decide +kernel
theorem dL_law_548 : decode cL_law 548 = .ok (.aload_n 0, 1) := by decide +kernel
theorem dL_law_549 : decode cL_law 549 = .ok (.iload_n 3, 1) := by decide +kernel
theorem dL_law_550 : decode cL_law 550 = .ok (.iconst 3, 1) := by decide +kernel
theorem dL_law_551 : decode cL_law 551 = .ok (.iadd, 1) := by decide +kernel
theorem dL_law_552 : decode cL_law 552 = .ok (.iaload, 1) := by decide +kernel
theorem dL_law_553 : decode cL_law 553 = .ok (.aload_n 0, 1) := by decide +kernel
theorem dL_law_554 : decode cL_law 554 = .ok (.iload_n 3, 1) := by decide +kernel
theorem dL_law_555 : decode cL_law 555 = .ok (.iconst 4, 1) := by decide +kernel
theorem dL_law_556 : decode cL_law 556 = .ok (.iadd, 1) := by decide +kernel
theorem dL_law_557 : decode cL_law 557 = .ok (.iaload, 1) := by decide +kernel
theorem dL_law_558 : decode cL_law 558 = .ok (.invokevirtual 57, 3) := by decide +kernel
theorem dL_law_561 : decode cL_law 561 = .ok (.aload_n 2, 1) := by decide +kernel
theorem dL_law_562 : decode cL_law 562 = .ok (.aload_n 0, 1) := by decide +kernel
theorem dL_law_563 : decode cL_law 563 = .ok (.iload_n 3, 1) := by decide +kernel
theorem dL_law_564 : decode cL_law 564 = .ok (.iconst 1, 1) := by decide +kernel
theorem dL_law_565 : decode cL_law 565 = .ok (.iadd, 1) := by decide +kernel
theorem dL_law_566 : decode cL_law 566 = .ok (.iaload, 1) := by decide +kernel
theorem dL_law_567 : decode cL_law 567 = .ok (.aload_n 0, 1) := by decide +kernel
theorem dL_law_568 : decode cL_law 568 = .ok (.iload_n 3, 1) := by decide +kernel
theorem dL_law_569 : decode cL_law 569 = .ok (.iconst 2, 1) := by decide +kernel
theorem dL_law_570 : decode cL_law 570 = .ok (.iadd, 1) := by decide +kernel
theorem dL_law_571 : decode cL_law 571 = .ok (.iaload, 1) := by decide +kernel
theorem dL_law_572 : decode cL_law 572 = .ok (.aload_n 0, 1) := by decide +kernel
theorem dL_law_573 : decode cL_law 573 = .ok (.iload_n 3, 1) := by decide +kernel
theorem dL_law_574 : decode cL_law 574 = .ok (.iconst 3, 1) := by decide +kernel
theorem dL_law_575 : decode cL_law 575 = .ok (.iadd, 1) := by decide +kernel
theorem dL_law_576 : decode cL_law 576 = .ok (.iaload, 1) := by decide +kernel
theorem dL_law_577 : decode cL_law 577 = .ok (.aload_n 0, 1) := by decide +kernel
theorem dL_law_578 : decode cL_law 578 = .ok (.iload_n 3, 1) := by decide +kernel
theorem dL_law_579 : decode cL_law 579 = .ok (.iconst 4, 1) := by decide +kernel
theorem dL_law_580 : decode cL_law 580 = .ok (.iadd, 1) := by decide +kernel
theorem dL_law_581 : decode cL_law 581 = .ok (.iaload, 1) := by decide +kernel
theorem dL_law_582 : decode cL_law 582 = .ok (.invokevirtual 60, 3) := by decide +kernel
theorem dL_law_585 : decode cL_law 585 = .ok (.if_icmp .eq 1219, 3) := by decide +kernel
theorem dL_law_588 : decode cL_law 588 = .ok (.iconst 0, 1) := by decide +kernel
theorem dL_law_589 : decode cL_law 589 = .ok (.ireturn, 1) := by decide +kernel
theorem dL_law_590 : decode cL_law 590 = .ok (.aload_n 1, 1) := by decide +kernel
theorem dL_law_591 : decode cL_law 591 = .ok (.aload_n 0, 1) := by decide +kernel
theorem dL_law_592 : decode cL_law 592 = .ok (.iload_n 3, 1) := by decide +kernel
theorem dL_law_593 : decode cL_law 593 = .ok (.iconst 1, 1) := by decide +kernel
theorem dL_law_594 : decode cL_law 594 = .ok (.iadd, 1) := by decide +kernel
theorem dL_law_595 : decode cL_law 595 = .ok (.iaload, 1) := by decide +kernel
theorem dL_law_596 : decode cL_law 596 = .ok (.aload_n 0, 1) := by decide +kernel
theorem dL_law_597 : decode cL_law 597 = .ok (.iload_n 3, 1) := by decide +kernel
theorem dL_law_598 : decode cL_law 598 = .ok (.iconst 2, 1) := by decide +kernel
theorem dL_law_599 : decode cL_law 599 = .ok (.iadd, 1) := by decide +kernel
theorem dL_law_600 : decode cL_law 600 = .ok (.iaload, 1) := by decide +kernel
theorem dL_law_601 : decode cL_law 601 = .ok (.aload_n 0, 1) := by decide +kernel
theorem dL_law_602 : decode cL_law 602 = .ok (.iload_n 3, 1) := by decide +kernel
theorem dL_law_603 : decode cL_law 603 = .ok (.iconst 3, 1) := by decide +kernel
theorem dL_law_604 : decode cL_law 604 = .ok (.iadd, 1) := by decide +kernel
theorem dL_law_605 : decode cL_law 605 = .ok (.iaload, 1) := by decide +kernel
theorem dL_law_606 : decode cL_law 606 = .ok (.aload_n 0, 1) := by decide +kernel
theorem dL_law_607 : decode cL_law 607 = .ok (.iload_n 3, 1) := by decide +kernel
theorem dL_law_608 : decode cL_law 608 = .ok (.iconst 4, 1) := by decide +kernel
theorem dL_law_609 : decode cL_law 609 = .ok (.iadd, 1) := by decide +kernel
theorem dL_law_610 : decode cL_law 610 = .ok (.iaload, 1) := by decide +kernel
theorem dL_law_611 : decode cL_law 611 = .ok (.aload_n 0, 1) := by decide +kernel
theorem dL_law_612 : decode cL_law 612 = .ok (.iload_n 3, 1) := by decide +kernel
theorem dL_law_613 : decode cL_law 613 = .ok (.iconst 5, 1) := by decide +kernel
theorem dL_law_614 : decode cL_law 614 = .ok (.iadd, 1) := by decide +kernel
theorem dL_law_615 : decode cL_law 615 = .ok (.iaload, 1) := by decide +kernel
theorem dL_law_616 : decode cL_law 616 = .ok (.invokevirtual 61, 3) := by decide +kernel
theorem dL_law_619 : decode cL_law 619 = .ok (.aload_n 2, 1) := by decide +kernel
theorem dL_law_620 : decode cL_law 620 = .ok (.aload_n 0, 1) := by decide +kernel
theorem dL_law_621 : decode cL_law 621 = .ok (.iload_n 3, 1) := by decide +kernel
theorem dL_law_622 : decode cL_law 622 = .ok (.iconst 1, 1) := by decide +kernel
theorem dL_law_623 : decode cL_law 623 = .ok (.iadd, 1) := by decide +kernel
theorem dL_law_624 : decode cL_law 624 = .ok (.iaload, 1) := by decide +kernel
theorem dL_law_625 : decode cL_law 625 = .ok (.aload_n 0, 1) := by decide +kernel
theorem dL_law_626 : decode cL_law 626 = .ok (.iload_n 3, 1) := by decide +kernel
theorem dL_law_627 : decode cL_law 627 = .ok (.iconst 2, 1) := by decide +kernel
theorem dL_law_628 : decode cL_law 628 = .ok (.iadd, 1) := by decide +kernel
theorem dL_law_629 : decode cL_law 629 = .ok (.iaload, 1) := by decide +kernel
theorem dL_law_630 : decode cL_law 630 = .ok (.aload_n 0, 1) := by decide +kernel
theorem dL_law_631 : decode cL_law 631 = .ok (.iload_n 3, 1) := by decide +kernel
theorem dL_law_632 : decode cL_law 632 = .ok (.iconst 3, 1) := by decide +kernel
theorem dL_law_633 : decode cL_law 633 = .ok (.iadd, 1) := by decide +kernel
theorem dL_law_634 : decode cL_law 634 = .ok (.iaload, 1) := by decide +kernel
theorem dL_law_635 : decode cL_law 635 = .ok (.aload_n 0, 1) := by decide +kernel
theorem dL_law_636 : decode cL_law 636 = .ok (.iload_n 3, 1) := by decide +kernel
theorem dL_law_637 : decode cL_law 637 = .ok (.iconst 4, 1) := by decide +kernel
theorem dL_law_638 : decode cL_law 638 = .ok (.iadd, 1) := by decide +kernel
theorem dL_law_639 : decode cL_law 639 = .ok (.iaload, 1) := by decide +kernel
theorem dL_law_640 : decode cL_law 640 = .ok (.aload_n 0, 1) := by decide +kernel
theorem dL_law_641 : decode cL_law 641 = .ok (.iload_n 3, 1) := by decide +kernel
theorem dL_law_642 : decode cL_law 642 = .ok (.iconst 5, 1) := by decide +kernel
theorem dL_law_643 : decode cL_law 643 = .ok (.iadd, 1) := by decide +kernel
theorem dL_law_644 : decode cL_law 644 = .ok (.iaload, 1) := by decide +kernel
theorem dL_law_645 : decode cL_law 645 = .ok (.invokevirtual 64, 3) := by decide +kernel
theorem dL_law_648 : decode cL_law 648 = .ok (.if_icmp .eq 1156, 3) := by decide +kernel
theorem dL_law_651 : decode cL_law 651 = .ok (.iconst 0, 1) := by decide +kernel
theorem dL_law_652 : decode cL_law 652 = .ok (.ireturn, 1) := by decide +kernel
theorem dL_law_653 : decode cL_law 653 = .ok (.aload_n 1, 1) := by decide +kernel
theorem dL_law_654 : decode cL_law 654 = .ok (.aload_n 0, 1) := by decide +kernel
theorem dL_law_655 : decode cL_law 655 = .ok (.iload_n 3, 1) := by decide +kernel
theorem dL_law_656 : decode cL_law 656 = .ok (.iconst 1, 1) := by decide +kernel
theorem dL_law_657 : decode cL_law 657 = .ok (.iadd, 1) := by decide +kernel
theorem dL_law_658 : decode cL_law 658 = .ok (.iaload, 1) := by decide +kernel
theorem dL_law_659 : decode cL_law 659 = .ok (.aload_n 0, 1) := by decide +kernel
theorem dL_law_660 : decode cL_law 660 = .ok (.iload_n 3, 1) := by decide +kernel
theorem dL_law_661 : decode cL_law 661 = .ok (.iconst 2, 1) := by decide +kernel
theorem dL_law_662 : decode cL_law 662 = .ok (.iadd, 1) := by decide +kernel
theorem dL_law_663 : decode cL_law 663 = .ok (.iaload, 1) := by decide +kernel
theorem dL_law_664 : decode cL_law 664 = .ok (.invokevirtual 65, 3) := by decide +kernel
theorem dL_law_667 : decode cL_law 667 = .ok (.aload_n 2, 1) := by decide +kernel
theorem dL_law_668 : decode cL_law 668 = .ok (.aload_n 0, 1) := by decide +kernel
theorem dL_law_669 : decode cL_law 669 = .ok (.iload_n 3, 1) := by decide +kernel
theorem dL_law_670 : decode cL_law 670 = .ok (.iconst 1, 1) := by decide +kernel
theorem dL_law_671 : decode cL_law 671 = .ok (.iadd, 1) := by decide +kernel
theorem dL_law_672 : decode cL_law 672 = .ok (.iaload, 1) := by decide +kernel
theorem dL_law_673 : decode cL_law 673 = .ok (.aload_n 0, 1) := by decide +kernel
theorem dL_law_674 : decode cL_law 674 = .ok (.iload_n 3, 1) := by decide +kernel
theorem dL_law_675 : decode cL_law 675 = .ok (.iconst 2, 1) := by decide +kernel
theorem dL_law_676 : decode cL_law 676 = .ok (.iadd, 1) := by decide +kernel
theorem dL_law_677 : decode cL_law 677 = .ok (.iaload, 1) := by decide +kernel
theorem dL_law_678 : decode cL_law 678 = .ok (.invokevirtual 68, 3) := by decide +kernel
theorem dL_law_681 : decode cL_law 681 = .ok (.if_icmp .eq 1123, 3) := by decide +kernel
theorem dL_law_684 : decode cL_law 684 = .ok (.iconst 0, 1) := by decide +kernel
theorem dL_law_685 : decode cL_law 685 = .ok (.ireturn, 1) := by decide +kernel
theorem dL_law_686 : decode cL_law 686 = .ok (.aload_n 1, 1) := by decide +kernel
theorem dL_law_687 : decode cL_law 687 = .ok (.aload_n 0, 1) := by decide +kernel
theorem dL_law_688 : decode cL_law 688 = .ok (.iload_n 3, 1) := by decide +kernel
theorem dL_law_689 : decode cL_law 689 = .ok (.iconst 1, 1) := by decide +kernel
theorem dL_law_690 : decode cL_law 690 = .ok (.iadd, 1) := by decide +kernel
theorem dL_law_691 : decode cL_law 691 = .ok (.iaload, 1) := by decide +kernel
theorem dL_law_692 : decode cL_law 692 = .ok (.invokevirtual 69, 3) := by decide +kernel
theorem dL_law_695 : decode cL_law 695 = .ok (.aload_n 2, 1) := by decide +kernel
theorem dL_law_696 : decode cL_law 696 = .ok (.aload_n 0, 1) := by decide +kernel
theorem dL_law_697 : decode cL_law 697 = .ok (.iload_n 3, 1) := by decide +kernel
theorem dL_law_698 : decode cL_law 698 = .ok (.iconst 1, 1) := by decide +kernel
theorem dL_law_699 : decode cL_law 699 = .ok (.iadd, 1) := by decide +kernel
theorem dL_law_700 : decode cL_law 700 = .ok (.iaload, 1) := by decide +kernel
theorem dL_law_701 : decode cL_law 701 = .ok (.invokevirtual 72, 3) := by decide +kernel
theorem dL_law_704 : decode cL_law 704 = .ok (.if_icmp .eq 1100, 3) := by decide +kernel
theorem dL_law_707 : decode cL_law 707 = .ok (.iconst 0, 1) := by decide +kernel
theorem dL_law_708 : decode cL_law 708 = .ok (.ireturn, 1) := by decide +kernel
theorem dL_law_709 : decode cL_law 709 = .ok (.aload_n 1, 1) := by decide +kernel
theorem dL_law_710 : decode cL_law 710 = .ok (.aload_n 0, 1) := by decide +kernel
theorem dL_law_711 : decode cL_law 711 = .ok (.iload_n 3, 1) := by decide +kernel
theorem dL_law_712 : decode cL_law 712 = .ok (.iconst 1, 1) := by decide +kernel
theorem dL_law_713 : decode cL_law 713 = .ok (.iadd, 1) := by decide +kernel
theorem dL_law_714 : decode cL_law 714 = .ok (.iaload, 1) := by decide +kernel
theorem dL_law_715 : decode cL_law 715 = .ok (.invokevirtual 73, 3) := by decide +kernel
theorem dL_law_718 : decode cL_law 718 = .ok (.aload_n 2, 1) := by decide +kernel
theorem dL_law_719 : decode cL_law 719 = .ok (.aload_n 0, 1) := by decide +kernel
theorem dL_law_720 : decode cL_law 720 = .ok (.iload_n 3, 1) := by decide +kernel
theorem dL_law_721 : decode cL_law 721 = .ok (.iconst 1, 1) := by decide +kernel
theorem dL_law_722 : decode cL_law 722 = .ok (.iadd, 1) := by decide +kernel
theorem dL_law_723 : decode cL_law 723 = .ok (.iaload, 1) := by decide +kernel
theorem dL_law_724 : decode cL_law 724 = .ok (.invokevirtual 76, 3) := by decide +kernel
theorem dL_law_727 : decode cL_law 727 = .ok (.if_icmp .eq 1077, 3) := by decide +kernel
theorem dL_law_730 : decode cL_law 730 = .ok (.iconst 0, 1) := by decide +kernel
theorem dL_law_731 : decode cL_law 731 = .ok (.ireturn, 1) := by decide +kernel
theorem dL_law_732 : decode cL_law 732 = .ok (.aload_n 1, 1) := by decide +kernel
theorem dL_law_733 : decode cL_law 733 = .ok (.aload_n 0, 1) := by decide +kernel
theorem dL_law_734 : decode cL_law 734 = .ok (.iload_n 3, 1) := by decide +kernel
theorem dL_law_735 : decode cL_law 735 = .ok (.iconst 1, 1) := by decide +kernel
theorem dL_law_736 : decode cL_law 736 = .ok (.iadd, 1) := by decide +kernel
theorem dL_law_737 : decode cL_law 737 = .ok (.iaload, 1) := by decide +kernel
theorem dL_law_738 : decode cL_law 738 = .ok (.invokevirtual 77, 3) := by decide +kernel
theorem dL_law_741 : decode cL_law 741 = .ok (.aload_n 2, 1) := by decide +kernel
theorem dL_law_742 : decode cL_law 742 = .ok (.aload_n 0, 1) := by decide +kernel
theorem dL_law_743 : decode cL_law 743 = .ok (.iload_n 3, 1) := by decide +kernel
theorem dL_law_744 : decode cL_law 744 = .ok (.iconst 1, 1) := by decide +kernel
theorem dL_law_745 : decode cL_law 745 = .ok (.iadd, 1) := by decide +kernel
theorem dL_law_746 : decode cL_law 746 = .ok (.iaload, 1) := by decide +kernel
theorem dL_law_747 : decode cL_law 747 = .ok (.invokevirtual 80, 3) := by decide +kernel
theorem dL_law_750 : decode cL_law 750 = .ok (.if_icmp .eq 1054, 3) := by decide +kernel
theorem dL_law_753 : decode cL_law 753 = .ok (.iconst 0, 1) := by decide +kernel
theorem dL_law_754 : decode cL_law 754 = .ok (.ireturn, 1) := by decide +kernel
theorem dL_law_755 : decode cL_law 755 = .ok (.aload_n 1, 1) := by decide +kernel
theorem dL_law_756 : decode cL_law 756 = .ok (.aload_n 0, 1) := by decide +kernel
theorem dL_law_757 : decode cL_law 757 = .ok (.iload_n 3, 1) := by decide +kernel
theorem dL_law_758 : decode cL_law 758 = .ok (.iconst 1, 1) := by decide +kernel
theorem dL_law_759 : decode cL_law 759 = .ok (.iadd, 1) := by decide +kernel
theorem dL_law_760 : decode cL_law 760 = .ok (.iaload, 1) := by decide +kernel
theorem dL_law_761 : decode cL_law 761 = .ok (.aload_n 0, 1) := by decide +kernel
theorem dL_law_762 : decode cL_law 762 = .ok (.iload_n 3, 1) := by decide +kernel
theorem dL_law_763 : decode cL_law 763 = .ok (.iconst 2, 1) := by decide +kernel
theorem dL_law_764 : decode cL_law 764 = .ok (.iadd, 1) := by decide +kernel
theorem dL_law_765 : decode cL_law 765 = .ok (.iaload, 1) := by decide +kernel
theorem dL_law_766 : decode cL_law 766 = .ok (.invokevirtual 81, 3) := by decide +kernel
theorem dL_law_769 : decode cL_law 769 = .ok (.aload_n 2, 1) := by decide +kernel
theorem dL_law_770 : decode cL_law 770 = .ok (.aload_n 0, 1) := by decide +kernel
theorem dL_law_771 : decode cL_law 771 = .ok (.iload_n 3, 1) := by decide +kernel
theorem dL_law_772 : decode cL_law 772 = .ok (.iconst 1, 1) := by decide +kernel
theorem dL_law_773 : decode cL_law 773 = .ok (.iadd, 1) := by decide +kernel
theorem dL_law_774 : decode cL_law 774 = .ok (.iaload, 1) := by decide +kernel
theorem dL_law_775 : decode cL_law 775 = .ok (.aload_n 0, 1) := by decide +kernel
theorem dL_law_776 : decode cL_law 776 = .ok (.iload_n 3, 1) := by decide +kernel
theorem dL_law_777 : decode cL_law 777 = .ok (.iconst 2, 1) := by decide +kernel
theorem dL_law_778 : decode cL_law 778 = .ok (.iadd, 1) := by decide +kernel
theorem dL_law_779 : decode cL_law 779 = .ok (.iaload, 1) := by decide +kernel
theorem dL_law_780 : decode cL_law 780 = .ok (.invokevirtual 84, 3) := by decide +kernel
theorem dL_law_783 : decode cL_law 783 = .ok (.if_icmp .eq 1021, 3) := by decide +kernel
theorem dL_law_786 : decode cL_law 786 = .ok (.iconst 0, 1) := by decide +kernel
theorem dL_law_787 : decode cL_law 787 = .ok (.ireturn, 1) := by decide +kernel
theorem dL_law_788 : decode cL_law 788 = .ok (.aload_n 1, 1) := by decide +kernel
theorem dL_law_789 : decode cL_law 789 = .ok (.aload_n 0, 1) := by decide +kernel
theorem dL_law_790 : decode cL_law 790 = .ok (.iload_n 3, 1) := by decide +kernel
theorem dL_law_791 : decode cL_law 791 = .ok (.iconst 1, 1) := by decide +kernel
theorem dL_law_792 : decode cL_law 792 = .ok (.iadd, 1) := by decide +kernel
theorem dL_law_793 : decode cL_law 793 = .ok (.iaload, 1) := by decide +kernel
theorem dL_law_794 : decode cL_law 794 = .ok (.aload_n 0, 1) := by decide +kernel
theorem dL_law_795 : decode cL_law 795 = .ok (.iload_n 3, 1) := by decide +kernel
theorem dL_law_796 : decode cL_law 796 = .ok (.iconst 2, 1) := by decide +kernel
theorem dL_law_797 : decode cL_law 797 = .ok (.iadd, 1) := by decide +kernel
theorem dL_law_798 : decode cL_law 798 = .ok (.iaload, 1) := by decide +kernel
theorem dL_law_799 : decode cL_law 799 = .ok (.invokevirtual 85, 3) := by decide +kernel
theorem dL_law_802 : decode cL_law 802 = .ok (.aload_n 2, 1) := by decide +kernel
theorem dL_law_803 : decode cL_law 803 = .ok (.aload_n 0, 1) := by decide +kernel
theorem dL_law_804 : decode cL_law 804 = .ok (.iload_n 3, 1) := by decide +kernel
theorem dL_law_805 : decode cL_law 805 = .ok (.iconst 1, 1) := by decide +kernel
theorem dL_law_806 : decode cL_law 806 = .ok (.iadd, 1) := by decide +kernel
theorem dL_law_807 : decode cL_law 807 = .ok (.iaload, 1) := by decide +kernel
theorem dL_law_808 : decode cL_law 808 = .ok (.aload_n 0, 1) := by decide +kernel
theorem dL_law_809 : decode cL_law 809 = .ok (.iload_n 3, 1) := by decide +kernel
theorem dL_law_810 : decode cL_law 810 = .ok (.iconst 2, 1) := by decide +kernel
theorem dL_law_811 : decode cL_law 811 = .ok (.iadd, 1) := by decide +kernel
theorem dL_law_812 : decode cL_law 812 = .ok (.iaload, 1) := by decide +kernel
theorem dL_law_813 : decode cL_law 813 = .ok (.invokevirtual 88, 3) := by decide +kernel
theorem dL_law_816 : decode cL_law 816 = .ok (.if_icmp .eq 988, 3) := by decide +kernel
theorem dL_law_819 : decode cL_law 819 = .ok (.iconst 0, 1) := by decide +kernel
theorem dL_law_820 : decode cL_law 820 = .ok (.ireturn, 1) := by decide +kernel
theorem dL_law_821 : decode cL_law 821 = .ok (.aload_n 1, 1) := by decide +kernel
theorem dL_law_822 : decode cL_law 822 = .ok (.aload_n 0, 1) := by decide +kernel
theorem dL_law_823 : decode cL_law 823 = .ok (.iload_n 3, 1) := by decide +kernel
theorem dL_law_824 : decode cL_law 824 = .ok (.iconst 1, 1) := by decide +kernel
theorem dL_law_825 : decode cL_law 825 = .ok (.iadd, 1) := by decide +kernel
theorem dL_law_826 : decode cL_law 826 = .ok (.iaload, 1) := by decide +kernel
theorem dL_law_827 : decode cL_law 827 = .ok (.aload_n 0, 1) := by decide +kernel
theorem dL_law_828 : decode cL_law 828 = .ok (.iload_n 3, 1) := by decide +kernel
theorem dL_law_829 : decode cL_law 829 = .ok (.iconst 2, 1) := by decide +kernel
theorem dL_law_830 : decode cL_law 830 = .ok (.iadd, 1) := by decide +kernel
theorem dL_law_831 : decode cL_law 831 = .ok (.iaload, 1) := by decide +kernel
theorem dL_law_832 : decode cL_law 832 = .ok (.aload_n 0, 1) := by decide +kernel
theorem dL_law_833 : decode cL_law 833 = .ok (.iload_n 3, 1) := by decide +kernel
theorem dL_law_834 : decode cL_law 834 = .ok (.iconst 3, 1) := by decide +kernel
theorem dL_law_835 : decode cL_law 835 = .ok (.iadd, 1) := by decide +kernel
theorem dL_law_836 : decode cL_law 836 = .ok (.iaload, 1) := by decide +kernel
theorem dL_law_837 : decode cL_law 837 = .ok (.invokevirtual 89, 3) := by decide +kernel
theorem dL_law_840 : decode cL_law 840 = .ok (.aload_n 2, 1) := by decide +kernel
theorem dL_law_841 : decode cL_law 841 = .ok (.aload_n 0, 1) := by decide +kernel
theorem dL_law_842 : decode cL_law 842 = .ok (.iload_n 3, 1) := by decide +kernel
theorem dL_law_843 : decode cL_law 843 = .ok (.iconst 1, 1) := by decide +kernel
theorem dL_law_844 : decode cL_law 844 = .ok (.iadd, 1) := by decide +kernel
theorem dL_law_845 : decode cL_law 845 = .ok (.iaload, 1) := by decide +kernel
theorem dL_law_846 : decode cL_law 846 = .ok (.aload_n 0, 1) := by decide +kernel
theorem dL_law_847 : decode cL_law 847 = .ok (.iload_n 3, 1) := by decide +kernel
theorem dL_law_848 : decode cL_law 848 = .ok (.iconst 2, 1) := by decide +kernel
theorem dL_law_849 : decode cL_law 849 = .ok (.iadd, 1) := by decide +kernel
theorem dL_law_850 : decode cL_law 850 = .ok (.iaload, 1) := by decide +kernel
theorem dL_law_851 : decode cL_law 851 = .ok (.aload_n 0, 1) := by decide +kernel
theorem dL_law_852 : decode cL_law 852 = .ok (.iload_n 3, 1) := by decide +kernel
theorem dL_law_853 : decode cL_law 853 = .ok (.iconst 3, 1) := by decide +kernel
theorem dL_law_854 : decode cL_law 854 = .ok (.iadd, 1) := by decide +kernel
theorem dL_law_855 : decode cL_law 855 = .ok (.iaload, 1) := by decide +kernel
theorem dL_law_856 : decode cL_law 856 = .ok (.invokevirtual 92, 3) := by decide +kernel
theorem dL_law_859 : decode cL_law 859 = .ok (.if_icmp .eq 945, 3) := by decide +kernel
theorem dL_law_862 : decode cL_law 862 = .ok (.iconst 0, 1) := by decide +kernel
theorem dL_law_863 : decode cL_law 863 = .ok (.ireturn, 1) := by decide +kernel
theorem dL_law_864 : decode cL_law 864 = .ok (.aload_n 1, 1) := by decide +kernel
theorem dL_law_865 : decode cL_law 865 = .ok (.aload_n 0, 1) := by decide +kernel
theorem dL_law_866 : decode cL_law 866 = .ok (.iload_n 3, 1) := by decide +kernel
theorem dL_law_867 : decode cL_law 867 = .ok (.iconst 1, 1) := by decide +kernel
theorem dL_law_868 : decode cL_law 868 = .ok (.iadd, 1) := by decide +kernel
theorem dL_law_869 : decode cL_law 869 = .ok (.iaload, 1) := by decide +kernel
theorem dL_law_870 : decode cL_law 870 = .ok (.aload_n 0, 1) := by decide +kernel
theorem dL_law_871 : decode cL_law 871 = .ok (.iload_n 3, 1) := by decide +kernel
theorem dL_law_872 : decode cL_law 872 = .ok (.iconst 2, 1) := by decide +kernel
theorem dL_law_873 : decode cL_law 873 = .ok (.iadd, 1) := by decide +kernel
theorem dL_law_874 : decode cL_law 874 = .ok (.iaload, 1) := by decide +kernel
theorem dL_law_875 : decode cL_law 875 = .ok (.invokevirtual 93, 3) := by decide +kernel
theorem dL_law_878 : decode cL_law 878 = .ok (.aload_n 2, 1) := by decide +kernel
theorem dL_law_879 : decode cL_law 879 = .ok (.aload_n 0, 1) := by decide +kernel
theorem dL_law_880 : decode cL_law 880 = .ok (.iload_n 3, 1) := by decide +kernel
theorem dL_law_881 : decode cL_law 881 = .ok (.iconst 1, 1) := by decide +kernel
theorem dL_law_882 : decode cL_law 882 = .ok (.iadd, 1) := by decide +kernel
theorem dL_law_883 : decode cL_law 883 = .ok (.iaload, 1) := by decide +kernel
theorem dL_law_884 : decode cL_law 884 = .ok (.aload_n 0, 1) := by decide +kernel
theorem dL_law_885 : decode cL_law 885 = .ok (.iload_n 3, 1) := by decide +kernel
theorem dL_law_886 : decode cL_law 886 = .ok (.iconst 2, 1) := by decide +kernel
theorem dL_law_887 : decode cL_law 887 = .ok (.iadd, 1) := by decide +kernel
theorem dL_law_888 : decode cL_law 888 = .ok (.iaload, 1) := by decide +kernel
theorem dL_law_889 : decode cL_law 889 = .ok (.invokevirtual 96, 3) := by decide +kernel
theorem dL_law_892 : decode cL_law 892 = .ok (.if_icmp .eq 912, 3) := by decide +kernel
theorem dL_law_895 : decode cL_law 895 = .ok (.iconst 0, 1) := by decide +kernel
theorem dL_law_896 : decode cL_law 896 = .ok (.ireturn, 1) := by decide +kernel
theorem dL_law_897 : decode cL_law 897 = .ok (.aload_n 1, 1) := by decide +kernel
theorem dL_law_898 : decode cL_law 898 = .ok (.aload_n 0, 1) := by decide +kernel
theorem dL_law_899 : decode cL_law 899 = .ok (.iload_n 3, 1) := by decide +kernel
theorem dL_law_900 : decode cL_law 900 = .ok (.iconst 1, 1) := by decide +kernel
theorem dL_law_901 : decode cL_law 901 = .ok (.iadd, 1) := by decide +kernel
theorem dL_law_902 : decode cL_law 902 = .ok (.iaload, 1) := by decide +kernel
theorem dL_law_903 : decode cL_law 903 = .ok (.aload_n 0, 1) := by decide +kernel
theorem dL_law_904 : decode cL_law 904 = .ok (.iload_n 3, 1) := by decide +kernel
theorem dL_law_905 : decode cL_law 905 = .ok (.iconst 2, 1) := by decide +kernel
theorem dL_law_906 : decode cL_law 906 = .ok (.iadd, 1) := by decide +kernel
theorem dL_law_907 : decode cL_law 907 = .ok (.iaload, 1) := by decide +kernel
theorem dL_law_908 : decode cL_law 908 = .ok (.invokevirtual 97, 3) := by decide +kernel
theorem dL_law_911 : decode cL_law 911 = .ok (.aload_n 2, 1) := by decide +kernel
theorem dL_law_912 : decode cL_law 912 = .ok (.aload_n 0, 1) := by decide +kernel
theorem dL_law_913 : decode cL_law 913 = .ok (.iload_n 3, 1) := by decide +kernel
theorem dL_law_914 : decode cL_law 914 = .ok (.iconst 1, 1) := by decide +kernel
theorem dL_law_915 : decode cL_law 915 = .ok (.iadd, 1) := by decide +kernel
theorem dL_law_916 : decode cL_law 916 = .ok (.iaload, 1) := by decide +kernel
theorem dL_law_917 : decode cL_law 917 = .ok (.aload_n 0, 1) := by decide +kernel
theorem dL_law_918 : decode cL_law 918 = .ok (.iload_n 3, 1) := by decide +kernel
theorem dL_law_919 : decode cL_law 919 = .ok (.iconst 2, 1) := by decide +kernel
theorem dL_law_920 : decode cL_law 920 = .ok (.iadd, 1) := by decide +kernel
theorem dL_law_921 : decode cL_law 921 = .ok (.iaload, 1) := by decide +kernel
theorem dL_law_922 : decode cL_law 922 = .ok (.invokevirtual 100, 3) := by decide +kernel
theorem dL_law_925 : decode cL_law 925 = .ok (.if_icmp .eq 879, 3) := by decide +kernel
theorem dL_law_928 : decode cL_law 928 = .ok (.iconst 0, 1) := by decide +kernel
theorem dL_law_929 : decode cL_law 929 = .ok (.ireturn, 1) := by decide +kernel
theorem dL_law_930 : decode cL_law 930 = .ok (.aload_n 1, 1) := by decide +kernel
theorem dL_law_931 : decode cL_law 931 = .ok (.aload_n 0, 1) := by decide +kernel
theorem dL_law_932 : decode cL_law 932 = .ok (.iload_n 3, 1) := by decide +kernel
theorem dL_law_933 : decode cL_law 933 = .ok (.iconst 1, 1) := by decide +kernel
theorem dL_law_934 : decode cL_law 934 = .ok (.iadd, 1) := by decide +kernel
theorem dL_law_935 : decode cL_law 935 = .ok (.iaload, 1) := by decide +kernel
theorem dL_law_936 : decode cL_law 936 = .ok (.aload_n 0, 1) := by decide +kernel
theorem dL_law_937 : decode cL_law 937 = .ok (.iload_n 3, 1) := by decide +kernel
theorem dL_law_938 : decode cL_law 938 = .ok (.iconst 2, 1) := by decide +kernel
theorem dL_law_939 : decode cL_law 939 = .ok (.iadd, 1) := by decide +kernel
theorem dL_law_940 : decode cL_law 940 = .ok (.iaload, 1) := by decide +kernel
theorem dL_law_941 : decode cL_law 941 = .ok (.aload_n 0, 1) := by decide +kernel
theorem dL_law_942 : decode cL_law 942 = .ok (.iload_n 3, 1) := by decide +kernel
theorem dL_law_943 : decode cL_law 943 = .ok (.iconst 3, 1) := by decide +kernel
theorem dL_law_944 : decode cL_law 944 = .ok (.iadd, 1) := by decide +kernel
theorem dL_law_945 : decode cL_law 945 = .ok (.iaload, 1) := by decide +kernel
theorem dL_law_946 : decode cL_law 946 = .ok (.invokevirtual 101, 3) := by decide +kernel
theorem dL_law_949 : decode cL_law 949 = .ok (.aload_n 2, 1) := by decide +kernel
theorem dL_law_950 : decode cL_law 950 = .ok (.aload_n 0, 1) := by decide +kernel
theorem dL_law_951 : decode cL_law 951 = .ok (.iload_n 3, 1) := by decide +kernel
theorem dL_law_952 : decode cL_law 952 = .ok (.iconst 1, 1) := by decide +kernel
theorem dL_law_953 : decode cL_law 953 = .ok (.iadd, 1) := by decide +kernel
theorem dL_law_954 : decode cL_law 954 = .ok (.iaload, 1) := by decide +kernel
theorem dL_law_955 : decode cL_law 955 = .ok (.aload_n 0, 1) := by decide +kernel
theorem dL_law_956 : decode cL_law 956 = .ok (.iload_n 3, 1) := by decide +kernel
theorem dL_law_957 : decode cL_law 957 = .ok (.iconst 2, 1) := by decide +kernel
theorem dL_law_958 : decode cL_law 958 = .ok (.iadd, 1) := by decide +kernel
theorem dL_law_959 : decode cL_law 959 = .ok (.iaload, 1) := by decide +kernel
theorem dL_law_960 : decode cL_law 960 = .ok (.aload_n 0, 1) := by decide +kernel
theorem dL_law_961 : decode cL_law 961 = .ok (.iload_n 3, 1) := by decide +kernel
theorem dL_law_962 : decode cL_law 962 = .ok (.iconst 3, 1) := by decide +kernel
theorem dL_law_963 : decode cL_law 963 = .ok (.iadd, 1) := by decide +kernel
theorem dL_law_964 : decode cL_law 964 = .ok (.iaload, 1) := by decide +kernel
theorem dL_law_965 : decode cL_law 965 = .ok (.invokevirtual 104, 3) := by decide +kernel
theorem dL_law_968 : decode cL_law 968 = .ok (.if_icmp .eq 836, 3) := by decide +kernel
theorem dL_law_971 : decode cL_law 971 = .ok (.iconst 0, 1) := by decide +kernel
theorem dL_law_972 : decode cL_law 972 = .ok (.ireturn, 1) := by decide +kernel
theorem dL_law_973 : decode cL_law 973 = .ok (.aload_n 1, 1) := by decide +kernel
theorem dL_law_974 : decode cL_law 974 = .ok (.aload_n 0, 1) := by decide +kernel
theorem dL_law_975 : decode cL_law 975 = .ok (.iload_n 3, 1) := by decide +kernel
theorem dL_law_976 : decode cL_law 976 = .ok (.iconst 1, 1) := by decide +kernel
theorem dL_law_977 : decode cL_law 977 = .ok (.iadd, 1) := by decide +kernel
theorem dL_law_978 : decode cL_law 978 = .ok (.iaload, 1) := by decide +kernel
theorem dL_law_979 : decode cL_law 979 = .ok (.invokevirtual 105, 3) := by decide +kernel
theorem dL_law_982 : decode cL_law 982 = .ok (.aload_n 2, 1) := by decide +kernel
theorem dL_law_983 : decode cL_law 983 = .ok (.aload_n 0, 1) := by decide +kernel
theorem dL_law_984 : decode cL_law 984 = .ok (.iload_n 3, 1) := by decide +kernel
theorem dL_law_985 : decode cL_law 985 = .ok (.iconst 1, 1) := by decide +kernel
theorem dL_law_986 : decode cL_law 986 = .ok (.iadd, 1) := by decide +kernel
theorem dL_law_987 : decode cL_law 987 = .ok (.iaload, 1) := by decide +kernel
theorem dL_law_988 : decode cL_law 988 = .ok (.invokevirtual 108, 3) := by decide +kernel
theorem dL_law_991 : decode cL_law 991 = .ok (.if_icmp .eq 813, 3) := by decide +kernel
theorem dL_law_994 : decode cL_law 994 = .ok (.iconst 0, 1) := by decide +kernel
theorem dL_law_995 : decode cL_law 995 = .ok (.ireturn, 1) := by decide +kernel
theorem dL_law_996 : decode cL_law 996 = .ok (.aload_n 1, 1) := by decide +kernel
theorem dL_law_997 : decode cL_law 997 = .ok (.aload_n 0, 1) := by decide +kernel
theorem dL_law_998 : decode cL_law 998 = .ok (.iload_n 3, 1) := by decide +kernel
theorem dL_law_999 : decode cL_law 999 = .ok (.iconst 1, 1) := by decide +kernel
theorem dL_law_1000 : decode cL_law 1000 = .ok (.iadd, 1) := by decide +kernel
theorem dL_law_1001 : decode cL_law 1001 = .ok (.iaload, 1) := by decide +kernel
theorem dL_law_1002 : decode cL_law 1002 = .ok (.invokevirtual 109, 3) := by decide +kernel
theorem dL_law_1005 : decode cL_law 1005 = .ok (.aload_n 2, 1) := by decide +kernel
theorem dL_law_1006 : decode cL_law 1006 = .ok (.aload_n 0, 1) := by decide +kernel
theorem dL_law_1007 : decode cL_law 1007 = .ok (.iload_n 3, 1) := by decide +kernel
theorem dL_law_1008 : decode cL_law 1008 = .ok (.iconst 1, 1) := by decide +kernel
theorem dL_law_1009 : decode cL_law 1009 = .ok (.iadd, 1) := by decide +kernel
theorem dL_law_1010 : decode cL_law 1010 = .ok (.iaload, 1) := by decide +kernel
theorem dL_law_1011 : decode cL_law 1011 = .ok (.invokevirtual 112, 3) := by decide +kernel
theorem dL_law_1014 : decode cL_law 1014 = .ok (.if_icmp .eq 790, 3) := by decide +kernel
theorem dL_law_1017 : decode cL_law 1017 = .ok (.iconst 0, 1) := by decide +kernel
theorem dL_law_1018 : decode cL_law 1018 = .ok (.ireturn, 1) := by decide +kernel
theorem dL_law_1019 : decode cL_law 1019 = .ok (.aload_n 1, 1) := by decide +kernel
theorem dL_law_1020 : decode cL_law 1020 = .ok (.aload_n 0, 1) := by decide +kernel
theorem dL_law_1021 : decode cL_law 1021 = .ok (.iload_n 3, 1) := by decide +kernel
theorem dL_law_1022 : decode cL_law 1022 = .ok (.iconst 1, 1) := by decide +kernel
theorem dL_law_1023 : decode cL_law 1023 = .ok (.iadd, 1) := by decide +kernel
theorem dL_law_1024 : decode cL_law 1024 = .ok (.iaload, 1) := by decide +kernel
theorem dL_law_1025 : decode cL_law 1025 = .ok (.aload_n 0, 1) := by decide +kernel
theorem dL_law_1026 : decode cL_law 1026 = .ok (.iload_n 3, 1) := by decide +kernel
theorem dL_law_1027 : decode cL_law 1027 = .ok (.iconst 2, 1) := by decide +kernel
theorem dL_law_1028 : decode cL_law 1028 = .ok (.iadd, 1) := by decide +kernel
theorem dL_law_1029 : decode cL_law 1029 = .ok (.iaload, 1) := by decide +kernel
theorem dL_law_1030 : decode cL_law 1030 = .ok (.aload_n 0, 1) := by decide +kernel
theorem dL_law_1031 : decode cL_law 1031 = .ok (.iload_n 3, 1) := by decide +kernel
theorem dL_law_1032 : decode cL_law 1032 = .ok (.iconst 3, 1) := by decide +kernel
theorem dL_law_1033 : decode cL_law 1033 = .ok (.iadd, 1) := by decide +kernel
theorem dL_law_1034 : decode cL_law 1034 = .ok (.iaload, 1) := by decide +kernel
theorem dL_law_1035 : decode cL_law 1035 = .ok (.invokevirtual 113, 3) := by decide +kernel
theorem dL_law_1038 : decode cL_law 1038 = .ok (.aload_n 2, 1) := by decide +kernel
theorem dL_law_1039 : decode cL_law 1039 = .ok (.aload_n 0, 1) := by decide +kernel
theorem dL_law_1040 : decode cL_law 1040 = .ok (.iload_n 3, 1) := by decide +kernel
theorem dL_law_1041 : decode cL_law 1041 = .ok (.iconst 1, 1) := by decide +kernel
theorem dL_law_1042 : decode cL_law 1042 = .ok (.iadd, 1) := by decide +kernel
theorem dL_law_1043 : decode cL_law 1043 = .ok (.iaload, 1) := by decide +kernel
theorem dL_law_1044 : decode cL_law 1044 = .ok (.aload_n 0, 1) := by decide +kernel
theorem dL_law_1045 : decode cL_law 1045 = .ok (.iload_n 3, 1) := by decide +kernel
theorem dL_law_1046 : decode cL_law 1046 = .ok (.iconst 2, 1) := by decide +kernel
theorem dL_law_1047 : decode cL_law 1047 = .ok (.iadd, 1) := by decide +kernel
theorem dL_law_1048 : decode cL_law 1048 = .ok (.iaload, 1) := by decide +kernel
theorem dL_law_1049 : decode cL_law 1049 = .ok (.aload_n 0, 1) := by decide +kernel
theorem dL_law_1050 : decode cL_law 1050 = .ok (.iload_n 3, 1) := by decide +kernel
theorem dL_law_1051 : decode cL_law 1051 = .ok (.iconst 3, 1) := by decide +kernel
theorem dL_law_1052 : decode cL_law 1052 = .ok (.iadd, 1) := by decide +kernel
theorem dL_law_1053 : decode cL_law 1053 = .ok (.iaload, 1) := by decide +kernel
theorem dL_law_1054 : decode cL_law 1054 = .ok (.invokevirtual 117, 3) := by decide +kernel
theorem dL_law_1057 : decode cL_law 1057 = .ok (.if_icmp .eq 747, 3) := by decide +kernel
theorem dL_law_1060 : decode cL_law 1060 = .ok (.iconst 0, 1) := by decide +kernel
theorem dL_law_1061 : decode cL_law 1061 = .ok (.ireturn, 1) := by decide +kernel
theorem dL_law_1062 : decode cL_law 1062 = .ok (.aload_n 1, 1) := by decide +kernel
theorem dL_law_1063 : decode cL_law 1063 = .ok (.aload_n 0, 1) := by decide +kernel
theorem dL_law_1064 : decode cL_law 1064 = .ok (.iload_n 3, 1) := by decide +kernel
theorem dL_law_1065 : decode cL_law 1065 = .ok (.iconst 1, 1) := by decide +kernel
theorem dL_law_1066 : decode cL_law 1066 = .ok (.iadd, 1) := by decide +kernel
theorem dL_law_1067 : decode cL_law 1067 = .ok (.iaload, 1) := by decide +kernel
theorem dL_law_1068 : decode cL_law 1068 = .ok (.aload_n 0, 1) := by decide +kernel
theorem dL_law_1069 : decode cL_law 1069 = .ok (.iload_n 3, 1) := by decide +kernel
theorem dL_law_1070 : decode cL_law 1070 = .ok (.iconst 2, 1) := by decide +kernel
theorem dL_law_1071 : decode cL_law 1071 = .ok (.iadd, 1) := by decide +kernel
theorem dL_law_1072 : decode cL_law 1072 = .ok (.iaload, 1) := by decide +kernel
theorem dL_law_1073 : decode cL_law 1073 = .ok (.aload_n 0, 1) := by decide +kernel
theorem dL_law_1074 : decode cL_law 1074 = .ok (.iload_n 3, 1) := by decide +kernel
theorem dL_law_1075 : decode cL_law 1075 = .ok (.iconst 3, 1) := by decide +kernel
theorem dL_law_1076 : decode cL_law 1076 = .ok (.iadd, 1) := by decide +kernel
theorem dL_law_1077 : decode cL_law 1077 = .ok (.iaload, 1) := by decide +kernel
theorem dL_law_1078 : decode cL_law 1078 = .ok (.invokevirtual 118, 3) := by decide +kernel
theorem dL_law_1081 : decode cL_law 1081 = .ok (.aload_n 2, 1) := by decide +kernel
theorem dL_law_1082 : decode cL_law 1082 = .ok (.aload_n 0, 1) := by decide +kernel
theorem dL_law_1083 : decode cL_law 1083 = .ok (.iload_n 3, 1) := by decide +kernel
theorem dL_law_1084 : decode cL_law 1084 = .ok (.iconst 1, 1) := by decide +kernel
theorem dL_law_1085 : decode cL_law 1085 = .ok (.iadd, 1) := by decide +kernel
theorem dL_law_1086 : decode cL_law 1086 = .ok (.iaload, 1) := by decide +kernel
theorem dL_law_1087 : decode cL_law 1087 = .ok (.aload_n 0, 1) := by decide +kernel
theorem dL_law_1088 : decode cL_law 1088 = .ok (.iload_n 3, 1) := by decide +kernel
theorem dL_law_1089 : decode cL_law 1089 = .ok (.iconst 2, 1) := by decide +kernel
theorem dL_law_1090 : decode cL_law 1090 = .ok (.iadd, 1) := by decide +kernel
theorem dL_law_1091 : decode cL_law 1091 = .ok (.iaload, 1) := by decide +kernel
theorem dL_law_1092 : decode cL_law 1092 = .ok (.aload_n 0, 1) := by decide +kernel
theorem dL_law_1093 : decode cL_law 1093 = .ok (.iload_n 3, 1) := by decide +kernel
theorem dL_law_1094 : decode cL_law 1094 = .ok (.iconst 3, 1) := by decide +kernel
theorem dL_law_1095 : decode cL_law 1095 = .ok (.iadd, 1) := by decide +kernel
theorem dL_law_1096 : decode cL_law 1096 = .ok (.iaload, 1) := by decide +kernel
theorem dL_law_1097 : decode cL_law 1097 = .ok (.invokevirtual 121, 3) := by decide +kernel
theorem dL_law_1100 : decode cL_law 1100 = .ok (.if_icmp .eq 704, 3) := by decide +kernel
theorem dL_law_1103 : decode cL_law 1103 = .ok (.iconst 0, 1) := by decide +kernel
theorem dL_law_1104 : decode cL_law 1104 = .ok (.ireturn, 1) := by decide +kernel
theorem dL_law_1105 : decode cL_law 1105 = .ok (.aload_n 1, 1) := by decide +kernel
theorem dL_law_1106 : decode cL_law 1106 = .ok (.aload_n 0, 1) := by decide +kernel
theorem dL_law_1107 : decode cL_law 1107 = .ok (.iload_n 3, 1) := by decide +kernel
theorem dL_law_1108 : decode cL_law 1108 = .ok (.iconst 1, 1) := by decide +kernel
theorem dL_law_1109 : decode cL_law 1109 = .ok (.iadd, 1) := by decide +kernel
theorem dL_law_1110 : decode cL_law 1110 = .ok (.iaload, 1) := by decide +kernel
theorem dL_law_1111 : decode cL_law 1111 = .ok (.aload_n 0, 1) := by decide +kernel
theorem dL_law_1112 : decode cL_law 1112 = .ok (.iload_n 3, 1) := by decide +kernel
theorem dL_law_1113 : decode cL_law 1113 = .ok (.iconst 2, 1) := by decide +kernel
theorem dL_law_1114 : decode cL_law 1114 = .ok (.iadd, 1) := by decide +kernel
theorem dL_law_1115 : decode cL_law 1115 = .ok (.iaload, 1) := by decide +kernel
theorem dL_law_1116 : decode cL_law 1116 = .ok (.invokevirtual 122, 3) := by decide +kernel
theorem dL_law_1119 : decode cL_law 1119 = .ok (.aload_n 2, 1) := by decide +kernel
theorem dL_law_1120 : decode cL_law 1120 = .ok (.aload_n 0, 1) := by decide +kernel
theorem dL_law_1121 : decode cL_law 1121 = .ok (.iload_n 3, 1) := by decide +kernel
theorem dL_law_1122 : decode cL_law 1122 = .ok (.iconst 1, 1) := by decide +kernel
theorem dL_law_1123 : decode cL_law 1123 = .ok (.iadd, 1) := by decide +kernel
theorem dL_law_1124 : decode cL_law 1124 = .ok (.iaload, 1) := by decide +kernel
theorem dL_law_1125 : decode cL_law 1125 = .ok (.aload_n 0, 1) := by decide +kernel
theorem dL_law_1126 : decode cL_law 1126 = .ok (.iload_n 3, 1) := by decide +kernel
theorem dL_law_1127 : decode cL_law 1127 = .ok (.iconst 2, 1) := by decide +kernel
theorem dL_law_1128 : decode cL_law 1128 = .ok (.iadd, 1) := by decide +kernel
theorem dL_law_1129 : decode cL_law 1129 = .ok (.iaload, 1) := by decide +kernel
theorem dL_law_1130 : decode cL_law 1130 = .ok (.invokevirtual 125, 3) := by decide +kernel
theorem dL_law_1133 : decode cL_law 1133 = .ok (.if_icmp .eq 671, 3) := by decide +kernel
theorem dL_law_1136 : decode cL_law 1136 = .ok (.iconst 0, 1) := by decide +kernel
theorem dL_law_1137 : decode cL_law 1137 = .ok (.ireturn, 1) := by decide +kernel
theorem dL_law_1138 : decode cL_law 1138 = .ok (.aload_n 1, 1) := by decide +kernel
theorem dL_law_1139 : decode cL_law 1139 = .ok (.aload_n 0, 1) := by decide +kernel
theorem dL_law_1140 : decode cL_law 1140 = .ok (.iload_n 3, 1) := by decide +kernel
theorem dL_law_1141 : decode cL_law 1141 = .ok (.iconst 1, 1) := by decide +kernel
theorem dL_law_1142 : decode cL_law 1142 = .ok (.iadd, 1) := by decide +kernel
theorem dL_law_1143 : decode cL_law 1143 = .ok (.iaload, 1) := by decide +kernel
theorem dL_law_1144 : decode cL_law 1144 = .ok (.invokevirtual 126, 3) := by decide +kernel
theorem dL_law_1147 : decode cL_law 1147 = .ok (.aload_n 2, 1) := by decide +kernel
theorem dL_law_1148 : decode cL_law 1148 = .ok (.aload_n 0, 1) := by decide +kernel
theorem dL_law_1149 : decode cL_law 1149 = .ok (.iload_n 3, 1) := by decide +kernel
theorem dL_law_1150 : decode cL_law 1150 = .ok (.iconst 1, 1) := by decide +kernel
theorem dL_law_1151 : decode cL_law 1151 = .ok (.iadd, 1) := by decide +kernel
theorem dL_law_1152 : decode cL_law 1152 = .ok (.iaload, 1) := by decide +kernel
theorem dL_law_1153 : decode cL_law 1153 = .ok (.invokevirtual 129, 3) := by decide +kernel
theorem dL_law_1156 : decode cL_law 1156 = .ok (.if_icmp .eq 648, 3) := by decide +kernel
theorem dL_law_1159 : decode cL_law 1159 = .ok (.iconst 0, 1) := by decide +kernel
theorem dL_law_1160 : decode cL_law 1160 = .ok (.ireturn, 1) := by decide +kernel
theorem dL_law_1161 : decode cL_law 1161 = .ok (.aload_n 1, 1) := by decide +kernel
theorem dL_law_1162 : decode cL_law 1162 = .ok (.aload_n 0, 1) := by decide +kernel
theorem dL_law_1163 : decode cL_law 1163 = .ok (.iload_n 3, 1) := by decide +kernel
theorem dL_law_1164 : decode cL_law 1164 = .ok (.iconst 1, 1) := by decide +kernel
theorem dL_law_1165 : decode cL_law 1165 = .ok (.iadd, 1) := by decide +kernel
theorem dL_law_1166 : decode cL_law 1166 = .ok (.iaload, 1) := by decide +kernel
theorem dL_law_1167 : decode cL_law 1167 = .ok (.invokevirtual 130, 3) := by decide +kernel
theorem dL_law_1170 : decode cL_law 1170 = .ok (.aload_n 2, 1) := by decide +kernel
theorem dL_law_1171 : decode cL_law 1171 = .ok (.aload_n 0, 1) := by decide +kernel
theorem dL_law_1172 : decode cL_law 1172 = .ok (.iload_n 3, 1) := by decide +kernel
theorem dL_law_1173 : decode cL_law 1173 = .ok (.iconst 1, 1) := by decide +kernel
theorem dL_law_1174 : decode cL_law 1174 = .ok (.iadd, 1) := by decide +kernel
theorem dL_law_1175 : decode cL_law 1175 = .ok (.iaload, 1) := by decide +kernel
theorem dL_law_1176 : decode cL_law 1176 = .ok (.invokevirtual 133, 3) := by decide +kernel
theorem dL_law_1179 : decode cL_law 1179 = .ok (.if_icmp .eq 625, 3) := by decide +kernel
theorem dL_law_1182 : decode cL_law 1182 = .ok (.iconst 0, 1) := by decide +kernel
theorem dL_law_1183 : decode cL_law 1183 = .ok (.ireturn, 1) := by decide +kernel
theorem dL_law_1184 : decode cL_law 1184 = .ok (.aload_n 1, 1) := by decide +kernel
theorem dL_law_1185 : decode cL_law 1185 = .ok (.aload_n 0, 1) := by decide +kernel
theorem dL_law_1186 : decode cL_law 1186 = .ok (.iload_n 3, 1) := by decide +kernel
theorem dL_law_1187 : decode cL_law 1187 = .ok (.iconst 1, 1) := by decide +kernel
theorem dL_law_1188 : decode cL_law 1188 = .ok (.iadd, 1) := by decide +kernel
theorem dL_law_1189 : decode cL_law 1189 = .ok (.iaload, 1) := by decide +kernel
theorem dL_law_1190 : decode cL_law 1190 = .ok (.aload_n 0, 1) := by decide +kernel
theorem dL_law_1191 : decode cL_law 1191 = .ok (.iload_n 3, 1) := by decide +kernel
theorem dL_law_1192 : decode cL_law 1192 = .ok (.iconst 2, 1) := by decide +kernel
theorem dL_law_1193 : decode cL_law 1193 = .ok (.iadd, 1) := by decide +kernel
theorem dL_law_1194 : decode cL_law 1194 = .ok (.iaload, 1) := by decide +kernel
theorem dL_law_1195 : decode cL_law 1195 = .ok (.aload_n 0, 1) := by decide +kernel
theorem dL_law_1196 : decode cL_law 1196 = .ok (.iload_n 3, 1) := by decide +kernel
theorem dL_law_1197 : decode cL_law 1197 = .ok (.iconst 3, 1) := by decide +kernel
theorem dL_law_1198 : decode cL_law 1198 = .ok (.iadd, 1) := by decide +kernel
theorem dL_law_1199 : decode cL_law 1199 = .ok (.iaload, 1) := by decide +kernel
theorem dL_law_1200 : decode cL_law 1200 = .ok (.invokevirtual 134, 3) := by decide +kernel
theorem dL_law_1203 : decode cL_law 1203 = .ok (.aload_n 2, 1) := by decide +kernel
theorem dL_law_1204 : decode cL_law 1204 = .ok (.aload_n 0, 1) := by decide +kernel
theorem dL_law_1205 : decode cL_law 1205 = .ok (.iload_n 3, 1) := by decide +kernel
theorem dL_law_1206 : decode cL_law 1206 = .ok (.iconst 1, 1) := by decide +kernel
theorem dL_law_1207 : decode cL_law 1207 = .ok (.iadd, 1) := by decide +kernel
theorem dL_law_1208 : decode cL_law 1208 = .ok (.iaload, 1) := by decide +kernel
theorem dL_law_1209 : decode cL_law 1209 = .ok (.aload_n 0, 1) := by decide +kernel
theorem dL_law_1210 : decode cL_law 1210 = .ok (.iload_n 3, 1) := by decide +kernel
theorem dL_law_1211 : decode cL_law 1211 = .ok (.iconst 2, 1) := by decide +kernel
theorem dL_law_1212 : decode cL_law 1212 = .ok (.iadd, 1) := by decide +kernel
theorem dL_law_1213 : decode cL_law 1213 = .ok (.iaload, 1) := by decide +kernel
theorem dL_law_1214 : decode cL_law 1214 = .ok (.aload_n 0, 1) := by decide +kernel
theorem dL_law_1215 : decode cL_law 1215 = .ok (.iload_n 3, 1) := by decide +kernel
theorem dL_law_1216 : decode cL_law 1216 = .ok (.iconst 3, 1) := by decide +kernel
theorem dL_law_1217 : decode cL_law 1217 = .ok (.iadd, 1) := by decide +kernel
theorem dL_law_1218 : decode cL_law 1218 = .ok (.iaload, 1) := by decide +kernel
theorem dL_law_1219 : decode cL_law 1219 = .ok (.invokevirtual 137, 3) := by decide +kernel
theorem dL_law_1222 : decode cL_law 1222 = .ok (.if_icmp .eq 582, 3) := by decide +kernel
theorem dL_law_1225 : decode cL_law 1225 = .ok (.iconst 0, 1) := by decide +kernel
theorem dL_law_1226 : decode cL_law 1226 = .ok (.ireturn, 1) := by decide +kernel
theorem dL_law_1227 : decode cL_law 1227 = .ok (.aload_n 1, 1) := by decide +kernel
theorem dL_law_1228 : decode cL_law 1228 = .ok (.aload_n 0, 1) := by decide +kernel
theorem dL_law_1229 : decode cL_law 1229 = .ok (.iload_n 3, 1) := by decide +kernel
theorem dL_law_1230 : decode cL_law 1230 = .ok (.iconst 1, 1) := by decide +kernel
theorem dL_law_1231 : decode cL_law 1231 = .ok (.iadd, 1) := by decide +kernel
theorem dL_law_1232 : decode cL_law 1232 = .ok (.iaload, 1) := by decide +kernel
theorem dL_law_1233 : decode cL_law 1233 = .ok (.invokevirtual 138, 3) := by decide +kernel
theorem dL_law_1236 : decode cL_law 1236 = .ok (.aload_n 2, 1) := by decide +kernel
theorem dL_law_1237 : decode cL_law 1237 = .ok (.aload_n 0, 1) := by decide +kernel
theorem dL_law_1238 : decode cL_law 1238 = .ok (.iload_n 3, 1) := by decide +kernel
theorem dL_law_1239 : decode cL_law 1239 = .ok (.iconst 1, 1) := by decide +kernel
theorem dL_law_1240 : decode cL_law 1240 = .ok (.iadd, 1) := by decide +kernel
theorem dL_law_1241 : decode cL_law 1241 = .ok (.iaload, 1) := by decide +kernel
theorem dL_law_1242 : decode cL_law 1242 = .ok (.invokevirtual 141, 3) := by decide +kernel
theorem dL_law_1245 : decode cL_law 1245 = .ok (.if_icmp .eq 559, 3) := by decide +kernel
theorem dL_law_1248 : decode cL_law 1248 = .ok (.iconst 0, 1) := by decide +kernel
theorem dL_law_1249 : decode cL_law 1249 = .ok (.ireturn, 1) := by decide +kernel
theorem dL_law_1250 : decode cL_law 1250 = .ok (.aload_n 1, 1) := by decide +kernel
theorem dL_law_1251 : decode cL_law 1251 = .ok (.aload_n 0, 1) := by decide +kernel
theorem dL_law_1252 : decode cL_law 1252 = .ok (.iload_n 3, 1) := by decide +kernel
theorem dL_law_1253 : decode cL_law 1253 = .ok (.iconst 1, 1) := by decide +kernel
theorem dL_law_1254 : decode cL_law 1254 = .ok (.iadd, 1) := by decide +kernel
theorem dL_law_1255 : decode cL_law 1255 = .ok (.iaload, 1) := by decide +kernel
theorem dL_law_1256 : decode cL_law 1256 = .ok (.aload_n 0, 1) := by decide +kernel
theorem dL_law_1257 : decode cL_law 1257 = .ok (.iload_n 3, 1) := by decide +kernel
theorem dL_law_1258 : decode cL_law 1258 = .ok (.iconst 2, 1) := by decide +kernel
theorem dL_law_1259 : decode cL_law 1259 = .ok (.iadd, 1) := by decide +kernel
theorem dL_law_1260 : decode cL_law 1260 = .ok (.iaload, 1) := by decide +kernel
theorem dL_law_1261 : decode cL_law 1261 = .ok (.invokevirtual 142, 3) := by decide +kernel
theorem dL_law_1264 : decode cL_law 1264 = .ok (.aload_n 2, 1) := by decide +kernel
theorem dL_law_1265 : decode cL_law 1265 = .ok (.aload_n 0, 1) := by decide +kernel
theorem dL_law_1266 : decode cL_law 1266 = .ok (.iload_n 3, 1) := by decide +kernel
theorem dL_law_1267 : decode cL_law 1267 = .ok (.iconst 1, 1) := by decide +kernel
theorem dL_law_1268 : decode cL_law 1268 = .ok (.iadd, 1) := by decide +kernel
theorem dL_law_1269 : decode cL_law 1269 = .ok (.iaload, 1) := by decide +kernel
theorem dL_law_1270 : decode cL_law 1270 = .ok (.aload_n 0, 1) := by decide +kernel
theorem dL_law_1271 : decode cL_law 1271 = .ok (.iload_n 3, 1) := by decide +kernel
theorem dL_law_1272 : decode cL_law 1272 = .ok (.iconst 2, 1) := by decide +kernel
theorem dL_law_1273 : decode cL_law 1273 = .ok (.iadd, 1) := by decide +kernel
theorem dL_law_1274 : decode cL_law 1274 = .ok (.iaload, 1) := by decide +kernel
theorem dL_law_1275 : decode cL_law 1275 = .ok (.invokevirtual 145, 3) := by decide +kernel
theorem dL_law_1278 : decode cL_law 1278 = .ok (.if_icmp .eq 526, 3) := by decide +kernel
theorem dL_law_1281 : decode cL_law 1281 = .ok (.iconst 0, 1) := by decide +kernel
theorem dL_law_1282 : decode cL_law 1282 = .ok (.ireturn, 1) := by decide +kernel
theorem dL_law_1283 : decode cL_law 1283 = .ok (.aload_n 1, 1) := by decide +kernel
theorem dL_law_1284 : decode cL_law 1284 = .ok (.aload_n 0, 1) := by decide +kernel
theorem dL_law_1285 : decode cL_law 1285 = .ok (.iload_n 3, 1) := by decide +kernel
theorem dL_law_1286 : decode cL_law 1286 = .ok (.iconst 1, 1) := by decide +kernel
theorem dL_law_1287 : decode cL_law 1287 = .ok (.iadd, 1) := by decide +kernel
theorem dL_law_1288 : decode cL_law 1288 = .ok (.iaload, 1) := by decide +kernel
theorem dL_law_1289 : decode cL_law 1289 = .ok (.invokevirtual 146, 3) := by decide +kernel
theorem dL_law_1292 : decode cL_law 1292 = .ok (.aload_n 2, 1) := by decide +kernel
theorem dL_law_1293 : decode cL_law 1293 = .ok (.aload_n 0, 1) := by decide +kernel
theorem dL_law_1294 : decode cL_law 1294 = .ok (.iload_n 3, 1) := by decide +kernel
theorem dL_law_1295 : decode cL_law 1295 = .ok (.iconst 1, 1) := by decide +kernel
theorem dL_law_1296 : decode cL_law 1296 = .ok (.iadd, 1) := by decide +kernel
theorem dL_law_1297 : decode cL_law 1297 = .ok (.iaload, 1) := by decide +kernel
theorem dL_law_1298 : decode cL_law 1298 = .ok (.invokevirtual 149, 3) := by decide +kernel
theorem dL_law_1301 : decode cL_law 1301 = .ok (.if_icmp .eq 503, 3) := by decide +kernel
theorem dL_law_1304 : decode cL_law 1304 = .ok (.iconst 0, 1) := by decide +kernel
theorem dL_law_1305 : decode cL_law 1305 = .ok (.ireturn, 1) := by decide +kernel
theorem dL_law_1306 : decode cL_law 1306 = .ok (.aload_n 1, 1) := by decide +kernel
theorem dL_law_1307 : decode cL_law 1307 = .ok (.aload_n 0, 1) := by decide +kernel
theorem dL_law_1308 : decode cL_law 1308 = .ok (.iload_n 3, 1) := by decide +kernel
theorem dL_law_1309 : decode cL_law 1309 = .ok (.iconst 1, 1) := by decide +kernel
theorem dL_law_1310 : decode cL_law 1310 = .ok (.iadd, 1) := by decide +kernel
theorem dL_law_1311 : decode cL_law 1311 = .ok (.iaload, 1) := by decide +kernel
theorem dL_law_1312 : decode cL_law 1312 = .ok (.invokevirtual 150, 3) := by decide +kernel
theorem dL_law_1315 : decode cL_law 1315 = .ok (.aload_n 2, 1) := by decide +kernel
theorem dL_law_1316 : decode cL_law 1316 = .ok (.aload_n 0, 1) := by decide +kernel
theorem dL_law_1317 : decode cL_law 1317 = .ok (.iload_n 3, 1) := by decide +kernel
theorem dL_law_1318 : decode cL_law 1318 = .ok (.iconst 1, 1) := by decide +kernel
theorem dL_law_1319 : decode cL_law 1319 = .ok (.iadd, 1) := by decide +kernel
theorem dL_law_1320 : decode cL_law 1320 = .ok (.iaload, 1) := by decide +kernel
theorem dL_law_1321 : decode cL_law 1321 = .ok (.invokevirtual 153, 3) := by decide +kernel
theorem dL_law_1324 : decode cL_law 1324 = .ok (.if_icmp .eq 480, 3) := by decide +kernel
theorem dL_law_1327 : decode cL_law 1327 = .ok (.iconst 0, 1) := by decide +kernel
theorem dL_law_1328 : decode cL_law 1328 = .ok (.ireturn, 1) := by decide +kernel
theorem dL_law_1329 : decode cL_law 1329 = .ok (.aload_n 1, 1) := by decide +kernel
theorem dL_law_1330 : decode cL_law 1330 = .ok (.aload_n 0, 1) := by decide +kernel
theorem dL_law_1331 : decode cL_law 1331 = .ok (.iload_n 3, 1) := by decide +kernel
theorem dL_law_1332 : decode cL_law 1332 = .ok (.iconst 1, 1) := by decide +kernel
theorem dL_law_1333 : decode cL_law 1333 = .ok (.iadd, 1) := by decide +kernel
theorem dL_law_1334 : decode cL_law 1334 = .ok (.iaload, 1) := by decide +kernel
theorem dL_law_1335 : decode cL_law 1335 = .ok (.invokevirtual 154, 3) := by decide +kernel
theorem dL_law_1338 : decode cL_law 1338 = .ok (.aload_n 2, 1) := by decide +kernel
theorem dL_law_1339 : decode cL_law 1339 = .ok (.aload_n 0, 1) := by decide +kernel
theorem dL_law_1340 : decode cL_law 1340 = .ok (.iload_n 3, 1) := by decide +kernel
theorem dL_law_1341 : decode cL_law 1341 = .ok (.iconst 1, 1) := by decide +kernel
theorem dL_law_1342 : decode cL_law 1342 = .ok (.iadd, 1) := by decide +kernel
theorem dL_law_1343 : decode cL_law 1343 = .ok (.iaload, 1) := by decide +kernel
theorem dL_law_1344 : decode cL_law 1344 = .ok (.invokevirtual 157, 3) := by decide +kernel
theorem dL_law_1347 : decode cL_law 1347 = .ok (.if_icmp .eq 457, 3) := by decide +kernel
theorem dL_law_1350 : decode cL_law 1350 = .ok (.iconst 0, 1) := by decide +kernel
theorem dL_law_1351 : decode cL_law 1351 = .ok (.ireturn, 1) := by decide +kernel
theorem dL_law_1352 : decode cL_law 1352 = .ok (.aload_n 1, 1) := by decide +kernel
theorem dL_law_1353 : decode cL_law 1353 = .ok (.aload_n 0, 1) := by decide +kernel
theorem dL_law_1354 : decode cL_law 1354 = .ok (.iload_n 3, 1) := by decide +kernel
theorem dL_law_1355 : decode cL_law 1355 = .ok (.iconst 1, 1) := by decide +kernel
theorem dL_law_1356 : decode cL_law 1356 = .ok (.iadd, 1) := by decide +kernel
theorem dL_law_1357 : decode cL_law 1357 = .ok (.iaload, 1) := by decide +kernel
theorem dL_law_1358 : decode cL_law 1358 = .ok (.invokevirtual 158, 3) := by decide +kernel
theorem dL_law_1361 : decode cL_law 1361 = .ok (.aload_n 2, 1) := by decide +kernel
theorem dL_law_1362 : decode cL_law 1362 = .ok (.aload_n 0, 1) := by decide +kernel
theorem dL_law_1363 : decode cL_law 1363 = .ok (.iload_n 3, 1) := by decide +kernel
theorem dL_law_1364 : decode cL_law 1364 = .ok (.iconst 1, 1) := by decide +kernel
theorem dL_law_1365 : decode cL_law 1365 = .ok (.iadd, 1) := by decide +kernel
theorem dL_law_1366 : decode cL_law 1366 = .ok (.iaload, 1) := by decide +kernel
theorem dL_law_1367 : decode cL_law 1367 = .ok (.invokevirtual 161, 3) := by decide +kernel
theorem dL_law_1370 : decode cL_law 1370 = .ok (.if_icmp .eq 434, 3) := by decide +kernel
theorem dL_law_1373 : decode cL_law 1373 = .ok (.iconst 0, 1) := by decide +kernel
theorem dL_law_1374 : decode cL_law 1374 = .ok (.ireturn, 1) := by decide +kernel
theorem dL_law_1375 : decode cL_law 1375 = .ok (.aload_n 1, 1) := by decide +kernel
theorem dL_law_1376 : decode cL_law 1376 = .ok (.aload_n 0, 1) := by decide +kernel
theorem dL_law_1377 : decode cL_law 1377 = .ok (.iload_n 3, 1) := by decide +kernel
theorem dL_law_1378 : decode cL_law 1378 = .ok (.iconst 1, 1) := by decide +kernel
theorem dL_law_1379 : decode cL_law 1379 = .ok (.iadd, 1) := by decide +kernel
theorem dL_law_1380 : decode cL_law 1380 = .ok (.iaload, 1) := by decide +kernel
theorem dL_law_1381 : decode cL_law 1381 = .ok (.invokevirtual 162, 3) := by decide +kernel
theorem dL_law_1384 : decode cL_law 1384 = .ok (.aload_n 2, 1) := by decide +kernel
theorem dL_law_1385 : decode cL_law 1385 = .ok (.aload_n 0, 1) := by decide +kernel
theorem dL_law_1386 : decode cL_law 1386 = .ok (.iload_n 3, 1) := by decide +kernel
theorem dL_law_1387 : decode cL_law 1387 = .ok (.iconst 1, 1) := by decide +kernel
theorem dL_law_1388 : decode cL_law 1388 = .ok (.iadd, 1) := by decide +kernel
theorem dL_law_1389 : decode cL_law 1389 = .ok (.iaload, 1) := by decide +kernel
theorem dL_law_1390 : decode cL_law 1390 = .ok (.invokevirtual 165, 3) := by decide +kernel
theorem dL_law_1393 : decode cL_law 1393 = .ok (.if_icmp .eq 411, 3) := by decide +kernel
theorem dL_law_1396 : decode cL_law 1396 = .ok (.iconst 0, 1) := by decide +kernel
theorem dL_law_1397 : decode cL_law 1397 = .ok (.ireturn, 1) := by decide +kernel
theorem dL_law_1398 : decode cL_law 1398 = .ok (.aload_n 1, 1) := by decide +kernel
theorem dL_law_1399 : decode cL_law 1399 = .ok (.aload_n 0, 1) := by decide +kernel
theorem dL_law_1400 : decode cL_law 1400 = .ok (.iload_n 3, 1) := by decide +kernel
theorem dL_law_1401 : decode cL_law 1401 = .ok (.iconst 1, 1) := by decide +kernel
theorem dL_law_1402 : decode cL_law 1402 = .ok (.iadd, 1) := by decide +kernel
theorem dL_law_1403 : decode cL_law 1403 = .ok (.iaload, 1) := by decide +kernel
theorem dL_law_1404 : decode cL_law 1404 = .ok (.aload_n 0, 1) := by decide +kernel
theorem dL_law_1405 : decode cL_law 1405 = .ok (.iload_n 3, 1) := by decide +kernel
theorem dL_law_1406 : decode cL_law 1406 = .ok (.iconst 2, 1) := by decide +kernel
theorem dL_law_1407 : decode cL_law 1407 = .ok (.iadd, 1) := by decide +kernel
theorem dL_law_1408 : decode cL_law 1408 = .ok (.iaload, 1) := by decide +kernel
theorem dL_law_1409 : decode cL_law 1409 = .ok (.aload_n 0, 1) := by decide +kernel
theorem dL_law_1410 : decode cL_law 1410 = .ok (.iload_n 3, 1) := by decide +kernel
theorem dL_law_1411 : decode cL_law 1411 = .ok (.iconst 3, 1) := by decide +kernel
theorem dL_law_1412 : decode cL_law 1412 = .ok (.iadd, 1) := by decide +kernel
theorem dL_law_1413 : decode cL_law 1413 = .ok (.iaload, 1) := by decide +kernel
theorem dL_law_1414 : decode cL_law 1414 = .ok (.invokevirtual 166, 3) := by decide +kernel
theorem dL_law_1417 : decode cL_law 1417 = .ok (.aload_n 2, 1) := by decide +kernel
theorem dL_law_1418 : decode cL_law 1418 = .ok (.aload_n 0, 1) := by decide +kernel
theorem dL_law_1419 : decode cL_law 1419 = .ok (.iload_n 3, 1) := by decide +kernel
theorem dL_law_1420 : decode cL_law 1420 = .ok (.iconst 1, 1) := by decide +kernel
theorem dL_law_1421 : decode cL_law 1421 = .ok (.iadd, 1) := by decide +kernel
theorem dL_law_1422 : decode cL_law 1422 = .ok (.iaload, 1) := by decide +kernel
theorem dL_law_1423 : decode cL_law 1423 = .ok (.aload_n 0, 1) := by decide +kernel
theorem dL_law_1424 : decode cL_law 1424 = .ok (.iload_n 3, 1) := by decide +kernel
theorem dL_law_1425 : decode cL_law 1425 = .ok (.iconst 2, 1) := by decide +kernel
theorem dL_law_1426 : decode cL_law 1426 = .ok (.iadd, 1) := by decide +kernel
theorem dL_law_1427 : decode cL_law 1427 = .ok (.iaload, 1) := by decide +kernel
theorem dL_law_1428 : decode cL_law 1428 = .ok (.aload_n 0, 1) := by decide +kernel
theorem dL_law_1429 : decode cL_law 1429 = .ok (.iload_n 3, 1) := by decide +kernel
theorem dL_law_1430 : decode cL_law 1430 = .ok (.iconst 3, 1) := by decide +kernel
theorem dL_law_1431 : decode cL_law 1431 = .ok (.iadd, 1) := by decide +kernel
theorem dL_law_1432 : decode cL_law 1432 = .ok (.iaload, 1) := by decide +kernel
theorem dL_law_1433 : decode cL_law 1433 = .ok (.invokevirtual 169, 3) := by decide +kernel
theorem dL_law_1436 : decode cL_law 1436 = .ok (.if_icmp .eq 368, 3) := by decide +kernel
theorem dL_law_1439 : decode cL_law 1439 = .ok (.iconst 0, 1) := by decide +kernel
theorem dL_law_1440 : decode cL_law 1440 = .ok (.ireturn, 1) := by decide +kernel
theorem dL_law_1441 : decode cL_law 1441 = .ok (.aload_n 1, 1) := by decide +kernel
theorem dL_law_1442 : decode cL_law 1442 = .ok (.aload_n 0, 1) := by decide +kernel
theorem dL_law_1443 : decode cL_law 1443 = .ok (.iload_n 3, 1) := by decide +kernel
theorem dL_law_1444 : decode cL_law 1444 = .ok (.iconst 1, 1) := by decide +kernel
theorem dL_law_1445 : decode cL_law 1445 = .ok (.iadd, 1) := by decide +kernel
theorem dL_law_1446 : decode cL_law 1446 = .ok (.iaload, 1) := by decide +kernel
theorem dL_law_1447 : decode cL_law 1447 = .ok (.aload_n 0, 1) := by decide +kernel
theorem dL_law_1448 : decode cL_law 1448 = .ok (.iload_n 3, 1) := by decide +kernel
theorem dL_law_1449 : decode cL_law 1449 = .ok (.iconst 2, 1) := by decide +kernel
theorem dL_law_1450 : decode cL_law 1450 = .ok (.iadd, 1) := by decide +kernel
theorem dL_law_1451 : decode cL_law 1451 = .ok (.iaload, 1) := by decide +kernel
theorem dL_law_1452 : decode cL_law 1452 = .ok (.invokevirtual 170, 3) := by decide +kernel
theorem dL_law_1455 : decode cL_law 1455 = .ok (.aload_n 2, 1) := by decide +kernel
theorem dL_law_1456 : decode cL_law 1456 = .ok (.aload_n 0, 1) := by decide +kernel
theorem dL_law_1457 : decode cL_law 1457 = .ok (.iload_n 3, 1) := by decide +kernel
theorem dL_law_1458 : decode cL_law 1458 = .ok (.iconst 1, 1) := by decide +kernel
theorem dL_law_1459 : decode cL_law 1459 = .ok (.iadd, 1) := by decide +kernel
theorem dL_law_1460 : decode cL_law 1460 = .ok (.iaload, 1) := by decide +kernel
theorem dL_law_1461 : decode cL_law 1461 = .ok (.aload_n 0, 1) := by decide +kernel
theorem dL_law_1462 : decode cL_law 1462 = .ok (.iload_n 3, 1) := by decide +kernel
theorem dL_law_1463 : decode cL_law 1463 = .ok (.iconst 2, 1) := by decide +kernel
theorem dL_law_1464 : decode cL_law 1464 = .ok (.iadd, 1) := by decide +kernel
theorem dL_law_1465 : decode cL_law 1465 = .ok (.iaload, 1) := by decide +kernel
theorem dL_law_1466 : decode cL_law 1466 = .ok (.invokevirtual 173, 3) := by decide +kernel
theorem dL_law_1469 : decode cL_law 1469 = .ok (.if_icmp .eq 335, 3) := by decide +kernel
theorem dL_law_1472 : decode cL_law 1472 = .ok (.iconst 0, 1) := by decide +kernel
theorem dL_law_1473 : decode cL_law 1473 = .ok (.ireturn, 1) := by decide +kernel
theorem dL_law_1474 : decode cL_law 1474 = .ok (.aload_n 1, 1) := by decide +kernel
theorem dL_law_1475 : decode cL_law 1475 = .ok (.aload_n 0, 1) := by decide +kernel
theorem dL_law_1476 : decode cL_law 1476 = .ok (.iload_n 3, 1) := by decide +kernel
theorem dL_law_1477 : decode cL_law 1477 = .ok (.iconst 1, 1) := by decide +kernel
theorem dL_law_1478 : decode cL_law 1478 = .ok (.iadd, 1) := by decide +kernel
theorem dL_law_1479 : decode cL_law 1479 = .ok (.iaload, 1) := by decide +kernel
theorem dL_law_1480 : decode cL_law 1480 = .ok (.aload_n 0, 1) := by decide +kernel
theorem dL_law_1481 : decode cL_law 1481 = .ok (.iload_n 3, 1) := by decide +kernel
theorem dL_law_1482 : decode cL_law 1482 = .ok (.iconst 2, 1) := by decide +kernel
theorem dL_law_1483 : decode cL_law 1483 = .ok (.iadd, 1) := by decide +kernel
theorem dL_law_1484 : decode cL_law 1484 = .ok (.iaload, 1) := by decide +kernel
theorem dL_law_1485 : decode cL_law 1485 = .ok (.invokevirtual 174, 3) := by decide +kernel
theorem dL_law_1488 : decode cL_law 1488 = .ok (.aload_n 2, 1) := by decide +kernel
theorem dL_law_1489 : decode cL_law 1489 = .ok (.aload_n 0, 1) := by decide +kernel
theorem dL_law_1490 : decode cL_law 1490 = .ok (.iload_n 3, 1) := by decide +kernel
theorem dL_law_1491 : decode cL_law 1491 = .ok (.iconst 1, 1) := by decide +kernel
theorem dL_law_1492 : decode cL_law 1492 = .ok (.iadd, 1) := by decide +kernel
theorem dL_law_1493 : decode cL_law 1493 = .ok (.iaload, 1) := by decide +kernel
theorem dL_law_1494 : decode cL_law 1494 = .ok (.aload_n 0, 1) := by decide +kernel
theorem dL_law_1495 : decode cL_law 1495 = .ok (.iload_n 3, 1) := by decide +kernel
theorem dL_law_1496 : decode cL_law 1496 = .ok (.iconst 2, 1) := by decide +kernel
theorem dL_law_1497 : decode cL_law 1497 = .ok (.iadd, 1) := by decide +kernel
theorem dL_law_1498 : decode cL_law 1498 = .ok (.iaload, 1) := by decide +kernel
theorem dL_law_1499 : decode cL_law 1499 = .ok (.invokevirtual 177, 3) := by decide +kernel
theorem dL_law_1502 : decode cL_law 1502 = .ok (.if_icmp .eq 302, 3) := by decide +kernel
theorem dL_law_1505 : decode cL_law 1505 = .ok (.iconst 0, 1) := by decide +kernel
theorem dL_law_1506 : decode cL_law 1506 = .ok (.ireturn, 1) := by decide +kernel
theorem dL_law_1507 : decode cL_law 1507 = .ok (.aload_n 1, 1) := by decide +kernel
theorem dL_law_1508 : decode cL_law 1508 = .ok (.aload_n 0, 1) := by decide +kernel
theorem dL_law_1509 : decode cL_law 1509 = .ok (.iload_n 3, 1) := by decide +kernel
theorem dL_law_1510 : decode cL_law 1510 = .ok (.iconst 1, 1) := by decide +kernel
theorem dL_law_1511 : decode cL_law 1511 = .ok (.iadd, 1) := by decide +kernel
theorem dL_law_1512 : decode cL_law 1512 = .ok (.iaload, 1) := by decide +kernel
theorem dL_law_1513 : decode cL_law 1513 = .ok (.aload_n 0, 1) := by decide +kernel
theorem dL_law_1514 : decode cL_law 1514 = .ok (.iload_n 3, 1) := by decide +kernel
theorem dL_law_1515 : decode cL_law 1515 = .ok (.iconst 2, 1) := by decide +kernel
theorem dL_law_1516 : decode cL_law 1516 = .ok (.iadd, 1) := by decide +kernel
theorem dL_law_1517 : decode cL_law 1517 = .ok (.iaload, 1) := by decide +kernel
theorem dL_law_1518 : decode cL_law 1518 = .ok (.invokevirtual 178, 3) := by decide +kernel
theorem dL_law_1521 : decode cL_law 1521 = .ok (.aload_n 2, 1) := by decide +kernel
theorem dL_law_1522 : decode cL_law 1522 = .ok (.aload_n 0, 1) := by decide +kernel
theorem dL_law_1523 : decode cL_law 1523 = .ok (.iload_n 3, 1) := by decide +kernel
theorem dL_law_1524 : decode cL_law 1524 = .ok (.iconst 1, 1) := by decide +kernel
theorem dL_law_1525 : decode cL_law 1525 = .ok (.iadd, 1) := by decide +kernel
theorem dL_law_1526 : decode cL_law 1526 = .ok (.iaload, 1) := by decide +kernel
theorem dL_law_1527 : decode cL_law 1527 = .ok (.aload_n 0, 1) := by decide +kernel
theorem dL_law_1528 : decode cL_law 1528 = .ok (.iload_n 3, 1) := by decide +kernel
theorem dL_law_1529 : decode cL_law 1529 = .ok (.iconst 2, 1) := by decide +kernel
theorem dL_law_1530 : decode cL_law 1530 = .ok (.iadd, 1) := by decide +kernel
theorem dL_law_1531 : decode cL_law 1531 = .ok (.iaload, 1) := by decide +kernel
theorem dL_law_1532 : decode cL_law 1532 = .ok (.invokevirtual 181, 3) := by decide +kernel
theorem dL_law_1535 : decode cL_law 1535 = .ok (.if_icmp .eq 269, 3) := by decide +kernel
theorem dL_law_1538 : decode cL_law 1538 = .ok (.iconst 0, 1) := by decide +kernel
theorem dL_law_1539 : decode cL_law 1539 = .ok (.ireturn, 1) := by decide +kernel
theorem dL_law_1540 : decode cL_law 1540 = .ok (.aload_n 1, 1) := by decide +kernel
theorem dL_law_1541 : decode cL_law 1541 = .ok (.aload_n 0, 1) := by decide +kernel
theorem dL_law_1542 : decode cL_law 1542 = .ok (.iload_n 3, 1) := by decide +kernel
theorem dL_law_1543 : decode cL_law 1543 = .ok (.iconst 1, 1) := by decide +kernel
theorem dL_law_1544 : decode cL_law 1544 = .ok (.iadd, 1) := by decide +kernel
theorem dL_law_1545 : decode cL_law 1545 = .ok (.iaload, 1) := by decide +kernel
theorem dL_law_1546 : decode cL_law 1546 = .ok (.aload_n 0, 1) := by decide +kernel
theorem dL_law_1547 : decode cL_law 1547 = .ok (.iload_n 3, 1) := by decide +kernel
theorem dL_law_1548 : decode cL_law 1548 = .ok (.iconst 2, 1) := by decide +kernel
theorem dL_law_1549 : decode cL_law 1549 = .ok (.iadd, 1) := by decide +kernel
theorem dL_law_1550 : decode cL_law 1550 = .ok (.iaload, 1) := by decide +kernel
theorem dL_law_1551 : decode cL_law 1551 = .ok (.aload_n 0, 1) := by decide +kernel
theorem dL_law_1552 : decode cL_law 1552 = .ok (.iload_n 3, 1) := by decide +kernel
theorem dL_law_1553 : decode cL_law 1553 = .ok (.iconst 3, 1) := by decide +kernel
theorem dL_law_1554 : decode cL_law 1554 = .ok (.iadd, 1) := by decide +kernel
theorem dL_law_1555 : decode cL_law 1555 = .ok (.iaload, 1) := by decide +kernel
theorem dL_law_1556 : decode cL_law 1556 = .ok (.invokevirtual 182, 3) := by decide +kernel
theorem dL_law_1559 : decode cL_law 1559 = .ok (.aload_n 2, 1) := by decide +kernel
theorem dL_law_1560 : decode cL_law 1560 = .ok (.aload_n 0, 1) := by decide +kernel
theorem dL_law_1561 : decode cL_law 1561 = .ok (.iload_n 3, 1) := by decide +kernel
theorem dL_law_1562 : decode cL_law 1562 = .ok (.iconst 1, 1) := by decide +kernel
theorem dL_law_1563 : decode cL_law 1563 = .ok (.iadd, 1) := by decide +kernel
theorem dL_law_1564 : decode cL_law 1564 = .ok (.iaload, 1) := by decide +kernel
theorem dL_law_1565 : decode cL_law 1565 = .ok (.aload_n 0, 1) := by decide +kernel
theorem dL_law_1566 : decode cL_law 1566 = .ok (.iload_n 3, 1) := by decide +kernel
theorem dL_law_1567 : decode cL_law 1567 = .ok (.iconst 2, 1) := by decide +kernel
theorem dL_law_1568 : decode cL_law 1568 = .ok (.iadd, 1) := by decide +kernel
theorem dL_law_1569 : decode cL_law 1569 = .ok (.iaload, 1) := by decide +kernel
theorem dL_law_1570 : decode cL_law 1570 = .ok (.aload_n 0, 1) := by decide +kernel
theorem dL_law_1571 : decode cL_law 1571 = .ok (.iload_n 3, 1) := by decide +kernel
theorem dL_law_1572 : decode cL_law 1572 = .ok (.iconst 3, 1) := by decide +kernel
theorem dL_law_1573 : decode cL_law 1573 = .ok (.iadd, 1) := by decide +kernel
theorem dL_law_1574 : decode cL_law 1574 = .ok (.iaload, 1) := by decide +kernel
theorem dL_law_1575 : decode cL_law 1575 = .ok (.invokevirtual 185, 3) := by decide +kernel
theorem dL_law_1578 : decode cL_law 1578 = .ok (.if_icmp .eq 226, 3) := by decide +kernel
theorem dL_law_1581 : decode cL_law 1581 = .ok (.iconst 0, 1) := by decide +kernel
theorem dL_law_1582 : decode cL_law 1582 = .ok (.ireturn, 1) := by decide +kernel
theorem dL_law_1583 : decode cL_law 1583 = .ok (.aload_n 1, 1) := by decide +kernel
theorem dL_law_1584 : decode cL_law 1584 = .ok (.aload_n 0, 1) := by decide +kernel
theorem dL_law_1585 : decode cL_law 1585 = .ok (.iload_n 3, 1) := by decide +kernel
theorem dL_law_1586 : decode cL_law 1586 = .ok (.iconst 1, 1) := by decide +kernel
theorem dL_law_1587 : decode cL_law 1587 = .ok (.iadd, 1) := by decide +kernel
theorem dL_law_1588 : decode cL_law 1588 = .ok (.iaload, 1) := by decide +kernel
theorem dL_law_1589 : decode cL_law 1589 = .ok (.aload_n 0, 1) := by decide +kernel
theorem dL_law_1590 : decode cL_law 1590 = .ok (.iload_n 3, 1) := by decide +kernel
theorem dL_law_1591 : decode cL_law 1591 = .ok (.iconst 2, 1) := by decide +kernel
theorem dL_law_1592 : decode cL_law 1592 = .ok (.iadd, 1) := by decide +kernel
theorem dL_law_1593 : decode cL_law 1593 = .ok (.iaload, 1) := by decide +kernel
theorem dL_law_1594 : decode cL_law 1594 = .ok (.aload_n 0, 1) := by decide +kernel
theorem dL_law_1595 : decode cL_law 1595 = .ok (.iload_n 3, 1) := by decide +kernel
theorem dL_law_1596 : decode cL_law 1596 = .ok (.iconst 3, 1) := by decide +kernel
theorem dL_law_1597 : decode cL_law 1597 = .ok (.iadd, 1) := by decide +kernel
theorem dL_law_1598 : decode cL_law 1598 = .ok (.iaload, 1) := by decide +kernel
theorem dL_law_1599 : decode cL_law 1599 = .ok (.aload_n 0, 1) := by decide +kernel
theorem dL_law_1600 : decode cL_law 1600 = .ok (.iload_n 3, 1) := by decide +kernel
theorem dL_law_1601 : decode cL_law 1601 = .ok (.iconst 4, 1) := by decide +kernel
theorem dL_law_1602 : decode cL_law 1602 = .ok (.iadd, 1) := by decide +kernel
theorem dL_law_1603 : decode cL_law 1603 = .ok (.iaload, 1) := by decide +kernel
theorem dL_law_1604 : decode cL_law 1604 = .ok (.invokevirtual 186, 3) := by decide +kernel
theorem dL_law_1607 : decode cL_law 1607 = .ok (.aload_n 2, 1) := by decide +kernel
theorem dL_law_1608 : decode cL_law 1608 = .ok (.aload_n 0, 1) := by decide +kernel
theorem dL_law_1609 : decode cL_law 1609 = .ok (.iload_n 3, 1) := by decide +kernel
theorem dL_law_1610 : decode cL_law 1610 = .ok (.iconst 1, 1) := by decide +kernel
theorem dL_law_1611 : decode cL_law 1611 = .ok (.iadd, 1) := by decide +kernel
theorem dL_law_1612 : decode cL_law 1612 = .ok (.iaload, 1) := by decide +kernel
theorem dL_law_1613 : decode cL_law 1613 = .ok (.aload_n 0, 1) := by decide +kernel
theorem dL_law_1614 : decode cL_law 1614 = .ok (.iload_n 3, 1) := by decide +kernel
theorem dL_law_1615 : decode cL_law 1615 = .ok (.iconst 2, 1) := by decide +kernel
theorem dL_law_1616 : decode cL_law 1616 = .ok (.iadd, 1) := by decide +kernel
theorem dL_law_1617 : decode cL_law 1617 = .ok (.iaload, 1) := by decide +kernel
theorem dL_law_1618 : decode cL_law 1618 = .ok (.aload_n 0, 1) := by decide +kernel
theorem dL_law_1619 : decode cL_law 1619 = .ok (.iload_n 3, 1) := by decide +kernel
theorem dL_law_1620 : decode cL_law 1620 = .ok (.iconst 3, 1) := by decide +kernel
theorem dL_law_1621 : decode cL_law 1621 = .ok (.iadd, 1) := by decide +kernel
theorem dL_law_1622 : decode cL_law 1622 = .ok (.iaload, 1) := by decide +kernel
theorem dL_law_1623 : decode cL_law 1623 = .ok (.aload_n 0, 1) := by decide +kernel
theorem dL_law_1624 : decode cL_law 1624 = .ok (.iload_n 3, 1) := by decide +kernel
theorem dL_law_1625 : decode cL_law 1625 = .ok (.iconst 4, 1) := by decide +kernel
theorem dL_law_1626 : decode cL_law 1626 = .ok (.iadd, 1) := by decide +kernel
theorem dL_law_1627 : decode cL_law 1627 = .ok (.iaload, 1) := by decide +kernel
theorem dL_law_1628 : decode cL_law 1628 = .ok (.invokevirtual 189, 3) := by decide +kernel
theorem dL_law_1631 : decode cL_law 1631 = .ok (.if_icmp .eq 173, 3) := by decide +kernel
theorem dL_law_1634 : decode cL_law 1634 = .ok (.iconst 0, 1) := by decide +kernel
theorem dL_law_1635 : decode cL_law 1635 = .ok (.ireturn, 1) := by decide +kernel
theorem dL_law_1636 : decode cL_law 1636 = .ok (.aload_n 1, 1) := by decide +kernel
theorem dL_law_1637 : decode cL_law 1637 = .ok (.aload_n 0, 1) := by decide +kernel
theorem dL_law_1638 : decode cL_law 1638 = .ok (.iload_n 3, 1) := by decide +kernel
theorem dL_law_1639 : decode cL_law 1639 = .ok (.iconst 1, 1) := by decide +kernel
theorem dL_law_1640 : decode cL_law 1640 = .ok (.iadd, 1) := by decide +kernel
theorem dL_law_1641 : decode cL_law 1641 = .ok (.iaload, 1) := by decide +kernel
theorem dL_law_1642 : decode cL_law 1642 = .ok (.aload_n 0, 1) := by decide +kernel
theorem dL_law_1643 : decode cL_law 1643 = .ok (.iload_n 3, 1) := by decide +kernel
theorem dL_law_1644 : decode cL_law 1644 = .ok (.iconst 2, 1) := by decide +kernel
theorem dL_law_1645 : decode cL_law 1645 = .ok (.iadd, 1) := by decide +kernel
theorem dL_law_1646 : decode cL_law 1646 = .ok (.iaload, 1) := by decide +kernel
theorem dL_law_1647 : decode cL_law 1647 = .ok (.aload_n 0, 1) := by decide +kernel
theorem dL_law_1648 : decode cL_law 1648 = .ok (.iload_n 3, 1) := by decide +kernel
theorem dL_law_1649 : decode cL_law 1649 = .ok (.iconst 3, 1) := by decide +kernel
theorem dL_law_1650 : decode cL_law 1650 = .ok (.iadd, 1) := by decide +kernel
theorem dL_law_1651 : decode cL_law 1651 = .ok (.iaload, 1) := by decide +kernel
theorem dL_law_1652 : decode cL_law 1652 = .ok (.invokevirtual 190, 3) := by decide +kernel
theorem dL_law_1655 : decode cL_law 1655 = .ok (.aload_n 2, 1) := by decide +kernel
theorem dL_law_1656 : decode cL_law 1656 = .ok (.aload_n 0, 1) := by decide +kernel
theorem dL_law_1657 : decode cL_law 1657 = .ok (.iload_n 3, 1) := by decide +kernel
theorem dL_law_1658 : decode cL_law 1658 = .ok (.iconst 1, 1) := by decide +kernel
theorem dL_law_1659 : decode cL_law 1659 = .ok (.iadd, 1) := by decide +kernel
theorem dL_law_1660 : decode cL_law 1660 = .ok (.iaload, 1) := by decide +kernel
theorem dL_law_1661 : decode cL_law 1661 = .ok (.aload_n 0, 1) := by decide +kernel
theorem dL_law_1662 : decode cL_law 1662 = .ok (.iload_n 3, 1) := by decide +kernel
theorem dL_law_1663 : decode cL_law 1663 = .ok (.iconst 2, 1) := by decide +kernel
theorem dL_law_1664 : decode cL_law 1664 = .ok (.iadd, 1) := by decide +kernel
theorem dL_law_1665 : decode cL_law 1665 = .ok (.iaload, 1) := by decide +kernel
theorem dL_law_1666 : decode cL_law 1666 = .ok (.aload_n 0, 1) := by decide +kernel
theorem dL_law_1667 : decode cL_law 1667 = .ok (.iload_n 3, 1) := by decide +kernel
theorem dL_law_1668 : decode cL_law 1668 = .ok (.iconst 3, 1) := by decide +kernel
theorem dL_law_1669 : decode cL_law 1669 = .ok (.iadd, 1) := by decide +kernel
theorem dL_law_1670 : decode cL_law 1670 = .ok (.iaload, 1) := by decide +kernel
theorem dL_law_1671 : decode cL_law 1671 = .ok (.invokevirtual 193, 3) := by decide +kernel
theorem dL_law_1674 : decode cL_law 1674 = .ok (.if_icmp .eq 130, 3) := by decide +kernel
theorem dL_law_1677 : decode cL_law 1677 = .ok (.iconst 0, 1) := by decide +kernel
theorem dL_law_1678 : decode cL_law 1678 = .ok (.ireturn, 1) := by decide +kernel
theorem dL_law_1679 : decode cL_law 1679 = .ok (.aload_n 1, 1) := by decide +kernel
theorem dL_law_1680 : decode cL_law 1680 = .ok (.aload_n 0, 1) := by decide +kernel
theorem dL_law_1681 : decode cL_law 1681 = .ok (.iload_n 3, 1) := by decide +kernel
theorem dL_law_1682 : decode cL_law 1682 = .ok (.iconst 1, 1) := by decide +kernel
theorem dL_law_1683 : decode cL_law 1683 = .ok (.iadd, 1) := by decide +kernel
theorem dL_law_1684 : decode cL_law 1684 = .ok (.iaload, 1) := by decide +kernel
theorem dL_law_1685 : decode cL_law 1685 = .ok (.invokevirtual 194, 3) := by decide +kernel
theorem dL_law_1688 : decode cL_law 1688 = .ok (.aload_n 2, 1) := by decide +kernel
theorem dL_law_1689 : decode cL_law 1689 = .ok (.aload_n 0, 1) := by decide +kernel
theorem dL_law_1690 : decode cL_law 1690 = .ok (.iload_n 3, 1) := by decide +kernel
theorem dL_law_1691 : decode cL_law 1691 = .ok (.iconst 1, 1) := by decide +kernel
theorem dL_law_1692 : decode cL_law 1692 = .ok (.iadd, 1) := by decide +kernel
theorem dL_law_1693 : decode cL_law 1693 = .ok (.iaload, 1) := by decide +kernel
theorem dL_law_1694 : decode cL_law 1694 = .ok (.invokevirtual 197, 3) := by decide +kernel
theorem dL_law_1697 : decode cL_law 1697 = .ok (.if_icmp .eq 107, 3) := by decide +kernel
theorem dL_law_1700 : decode cL_law 1700 = .ok (.iconst 0, 1) := by decide +kernel
theorem dL_law_1701 : decode cL_law 1701 = .ok (.ireturn, 1) := by decide +kernel
theorem dL_law_1702 : decode cL_law 1702 = .ok (.aload_n 1, 1) := by decide +kernel
theorem dL_law_1703 : decode cL_law 1703 = .ok (.invokevirtual 198, 3) := by decide +kernel
theorem dL_law_1706 : decode cL_law 1706 = .ok (.aload_n 2, 1) := by decide +kernel
theorem dL_law_1707 : decode cL_law 1707 = .ok (.invokevirtual 201, 3) := by decide +kernel
theorem dL_law_1710 : decode cL_law 1710 = .ok (.if_icmp .eq 94, 3) := by decide +kernel
theorem dL_law_1713 : decode cL_law 1713 = .ok (.iconst 0, 1) := by decide +kernel
theorem dL_law_1714 : decode cL_law 1714 = .ok (.ireturn, 1) := by decide +kernel
theorem dL_law_1715 : decode cL_law 1715 = .ok (.aload_n 1, 1) := by decide +kernel
theorem dL_law_1716 : decode cL_law 1716 = .ok (.aload_n 0, 1) := by decide +kernel
theorem dL_law_1717 : decode cL_law 1717 = .ok (.iload_n 3, 1) := by decide +kernel
theorem dL_law_1718 : decode cL_law 1718 = .ok (.iconst 1, 1) := by decide +kernel
theorem dL_law_1719 : decode cL_law 1719 = .ok (.iadd, 1) := by decide +kernel
theorem dL_law_1720 : decode cL_law 1720 = .ok (.iaload, 1) := by decide +kernel
theorem dL_law_1721 : decode cL_law 1721 = .ok (.aload_n 0, 1) := by decide +kernel
theorem dL_law_1722 : decode cL_law 1722 = .ok (.iload_n 3, 1) := by decide +kernel
theorem dL_law_1723 : decode cL_law 1723 = .ok (.iconst 2, 1) := by decide +kernel
theorem dL_law_1724 : decode cL_law 1724 = .ok (.iadd, 1) := by decide +kernel
theorem dL_law_1725 : decode cL_law 1725 = .ok (.iaload, 1) := by decide +kernel
theorem dL_law_1726 : decode cL_law 1726 = .ok (.invokevirtual 202, 3) := by decide +kernel
theorem dL_law_1729 : decode cL_law 1729 = .ok (.aload_n 2, 1) := by decide +kernel
theorem dL_law_1730 : decode cL_law 1730 = .ok (.aload_n 0, 1) := by decide +kernel
theorem dL_law_1731 : decode cL_law 1731 = .ok (.iload_n 3, 1) := by decide +kernel
theorem dL_law_1732 : decode cL_law 1732 = .ok (.iconst 1, 1) := by decide +kernel
theorem dL_law_1733 : decode cL_law 1733 = .ok (.iadd, 1) := by decide +kernel
theorem dL_law_1734 : decode cL_law 1734 = .ok (.iaload, 1) := by decide +kernel
theorem dL_law_1735 : decode cL_law 1735 = .ok (.aload_n 0, 1) := by decide +kernel
theorem dL_law_1736 : decode cL_law 1736 = .ok (.iload_n 3, 1) := by decide +kernel
theorem dL_law_1737 : decode cL_law 1737 = .ok (.iconst 2, 1) := by decide +kernel
theorem dL_law_1738 : decode cL_law 1738 = .ok (.iadd, 1) := by decide +kernel
theorem dL_law_1739 : decode cL_law 1739 = .ok (.iaload, 1) := by decide +kernel
theorem dL_law_1740 : decode cL_law 1740 = .ok (.invokevirtual 205, 3) := by decide +kernel
theorem dL_law_1743 : decode cL_law 1743 = .ok (.if_icmp .eq 61, 3) := by decide +kernel
theorem dL_law_1746 : decode cL_law 1746 = .ok (.iconst 0, 1) := by decide +kernel
theorem dL_law_1747 : decode cL_law 1747 = .ok (.ireturn, 1) := by decide +kernel
theorem dL_law_1748 : decode cL_law 1748 = .ok (.aload_n 1, 1) := by decide +kernel
theorem dL_law_1749 : decode cL_law 1749 = .ok (.aload_n 0, 1) := by decide +kernel
theorem dL_law_1750 : decode cL_law 1750 = .ok (.iload_n 3, 1) := by decide +kernel
theorem dL_law_1751 : decode cL_law 1751 = .ok (.iconst 1, 1) := by decide +kernel
theorem dL_law_1752 : decode cL_law 1752 = .ok (.iadd, 1) := by decide +kernel
theorem dL_law_1753 : decode cL_law 1753 = .ok (.iaload, 1) := by decide +kernel
theorem dL_law_1754 : decode cL_law 1754 = .ok (.aload_n 0, 1) := by decide +kernel
theorem dL_law_1755 : decode cL_law 1755 = .ok (.iload_n 3, 1) := by decide +kernel
theorem dL_law_1756 : decode cL_law 1756 = .ok (.iconst 2, 1) := by decide +kernel
theorem dL_law_1757 : decode cL_law 1757 = .ok (.iadd, 1) := by decide +kernel
theorem dL_law_1758 : decode cL_law 1758 = .ok (.iaload, 1) := by decide +kernel
theorem dL_law_1759 : decode cL_law 1759 = .ok (.invokevirtual 206, 3) := by decide +kernel
theorem dL_law_1762 : decode cL_law 1762 = .ok (.aload_n 2, 1) := by decide +kernel
theorem dL_law_1763 : decode cL_law 1763 = .ok (.aload_n 0, 1) := by decide +kernel
theorem dL_law_1764 : decode cL_law 1764 = .ok (.iload_n 3, 1) := by decide +kernel
theorem dL_law_1765 : decode cL_law 1765 = .ok (.iconst 1, 1) := by decide +kernel
theorem dL_law_1766 : decode cL_law 1766 = .ok (.iadd, 1) := by decide +kernel
theorem dL_law_1767 : decode cL_law 1767 = .ok (.iaload, 1) := by decide +kernel
theorem dL_law_1768 : decode cL_law 1768 = .ok (.aload_n 0, 1) := by decide +kernel
theorem dL_law_1769 : decode cL_law 1769 = .ok (.iload_n 3, 1) := by decide +kernel
theorem dL_law_1770 : decode cL_law 1770 = .ok (.iconst 2, 1) := by decide +kernel
theorem dL_law_1771 : decode cL_law 1771 = .ok (.iadd, 1) := by decide +kernel
theorem dL_law_1772 : decode cL_law 1772 = .ok (.iaload, 1) := by decide +kernel
theorem dL_law_1773 : decode cL_law 1773 = .ok (.invokevirtual 209, 3) := by decide +kernel
theorem dL_law_1776 : decode cL_law 1776 = .ok (.if_icmp .eq 28, 3) := by decide +kernel
theorem dL_law_1779 : decode cL_law 1779 = .ok (.iconst 0, 1) := by decide +kernel
theorem dL_law_1780 : decode cL_law 1780 = .ok (.ireturn, 1) := by decide +kernel
theorem dL_law_1781 : decode cL_law 1781 = .ok (.aload_n 1, 1) := by decide +kernel
theorem dL_law_1782 : decode cL_law 1782 = .ok (.aload_n 0, 1) := by decide +kernel
theorem dL_law_1783 : decode cL_law 1783 = .ok (.iload_n 3, 1) := by decide +kernel
theorem dL_law_1784 : decode cL_law 1784 = .ok (.iconst 1, 1) := by decide +kernel
theorem dL_law_1785 : decode cL_law 1785 = .ok (.iadd, 1) := by decide +kernel
theorem dL_law_1786 : decode cL_law 1786 = .ok (.iaload, 1) := by decide +kernel
theorem dL_law_1787 : decode cL_law 1787 = .ok (.invokevirtual 210, 3) := by decide +kernel
theorem dL_law_1790 : decode cL_law 1790 = .ok (.aload_n 2, 1) := by decide +kernel
theorem dL_law_1791 : decode cL_law 1791 = .ok (.aload_n 0, 1) := by decide +kernel
theorem dL_law_1792 : decode cL_law 1792 = .ok (.iload_n 3, 1) := by decide +kernel
theorem dL_law_1793 : decode cL_law 1793 = .ok (.iconst 1, 1) := by decide +kernel
theorem dL_law_1794 : decode cL_law 1794 = .ok (.iadd, 1) := by decide +kernel
theorem dL_law_1795 : decode cL_law 1795 = .ok (.iaload, 1) := by decide +kernel
theorem dL_law_1796 : decode cL_law 1796 = .ok (.invokevirtual 213, 3) := by decide +kernel
theorem dL_law_1799 : decode cL_law 1799 = .ok (.if_icmp .eq 5, 3) := by decide +kernel
theorem dL_law_1802 : decode cL_law 1802 = .ok (.iconst 0, 1) := by decide +kernel
theorem dL_law_1803 : decode cL_law 1803 = .ok (.ireturn, 1) := by decide +kernel
theorem dL_law_1804 : decode cL_law 1804 = .ok (.iinc 3 6, 3) := by decide +kernel
theorem dL_law_1807 : decode cL_law 1807 = .ok (.goto (-1789), 3) := by decide +kernel
theorem dL_law_1810 : decode cL_law 1810 = .ok (.iconst 1, 1) := by decide +kernel
theorem dL_law_1811 : decode cL_law 1811 = .ok (.ireturn, 1) := by decide +kernel
