theorem dX0_init_0 : decode cX0_init 0 = .ok (.aload_n 0, 1) := by decide +kernel
theorem dX0_init_1 : decode cX0_init 1 = .ok (.invokespecial 3, 3) := by decide +kernel
theorem dX0_init_4 : decode cX0_init 4 = .ok (.aload_n 0, 1) := by decide +kernel
theorem dX0_init_5 : decode cX0_init 5 = .ok (.iconst (-1), 1) := by decide +kernel
theorem dX0_init_6 : decode cX0_init 6 = .ok (.putfield 9, 3) := by decide +kernel
theorem dX0_init_9 : decode cX0_init 9 = .ok (.aload_n 0, 1) := by decide +kernel
theorem dX0_init_10 : decode cX0_init 10 = .ok (.iconst (-1), 1) := by decide +kernel
theorem dX0_init_11 : decode cX0_init 11 = .ok (.putfield 15, 3) := by decide +kernel
theorem dX0_init_14 : decode cX0_init 14 = .ok (.aload_n 0, 1) := by decide +kernel
theorem dX0_init_15 : decode cX0_init 15 = .ok (.iconst (-1), 1) := by decide +kernel
theorem dX0_init_16 : decode cX0_init 16 = .ok (.putfield 18, 3) := by decide +kernel
theorem dX0_init_19 : decode cX0_init 19 = .ok (.aload_n 0, 1) := by decide +kernel
theorem dX0_init_20 : decode cX0_init 20 = .ok (.iconst (-1), 1) := by decide +kernel
theorem dX0_init_21 : decode cX0_init 21 = .ok (.putfield 21, 3) := by decide +kernel
theorem dX0_init_24 : decode cX0_init 24 = .ok (.aload_n 0, 1) := by decide +kernel
theorem dX0_init_25 : decode cX0_init 25 = .ok (.iload_n 1, 1) := by decide +kernel
theorem dX0_init_26 : decode cX0_init 26 = .ok (.putfield 24, 3) := by decide +kernel
theorem dX0_init_29 : decode cX0_init 29 = .ok (.aload_n 0, 1) := by decide +kernel
theorem dX0_init_30 : decode cX0_init 30 = .ok (.iload_n 2, 1) := by decide +kernel
theorem dX0_init_31 : decode cX0_init 31 = .ok (.putfield 27, 3) := by decide +kernel
theorem dX0_init_34 : decode cX0_init 34 = .ok (.aload_n 0, 1) := by decide +kernel
theorem dX0_init_35 : decode cX0_init 35 = .ok (.iconst 0, 1) := by decide +kernel
theorem dX0_init_36 : decode cX0_init 36 = .ok (.iload_n 3, 1) := by decide +kernel
theorem dX0_init_37 : decode cX0_init 37 = .ok (.invokestatic 30, 3) := by decide +kernel
theorem dX0_init_40 : decode cX0_init 40 = .ok (.newarray .byte, 2) := by decide +kernel
theorem dX0_init_42 : decode cX0_init 42 = .ok (.putfield 36, 3) := by decide +kernel
theorem dX0_init_45 : decode cX0_init 45 = .ok (.return_, 1) := by decide +kernel
theorem dX0_byteOf_0 : decode cX0_byteOf 0 = .ok (.iload_n 3, 1) := by decide +kernel
theorem dX0_byteOf_1 : decode cX0_byteOf 1 = .ok (.iconst 4, 1) := by decide +kernel
theorem dX0_byteOf_2 : decode cX0_byteOf 2 = .ok (.if_icmp .ge 7, 3) := by decide +kernel
theorem dX0_byteOf_5 : decode cX0_byteOf 5 = .ok (.iload_n 0, 1) := by decide +kernel
theorem dX0_byteOf_6 : decode cX0_byteOf 6 = .ok (.goto 14, 3) := by decide +kernel
theorem dX0_byteOf_9 : decode cX0_byteOf 9 = .ok (.iload_n 3, 1) := by decide +kernel
theorem dX0_byteOf_10 : decode cX0_byteOf 10 = .ok (.bipush 8, 2) := by decide +kernel
theorem dX0_byteOf_12 : decode cX0_byteOf 12 = .ok (.if_icmp .ge 7, 3) := by decide +kernel
theorem dX0_byteOf_15 : decode cX0_byteOf 15 = .ok (.iload_n 1, 1) := by decide +kernel
theorem dX0_byteOf_16 : decode cX0_byteOf 16 = .ok (.goto 4, 3) := by decide +kernel
theorem dX0_byteOf_19 : decode cX0_byteOf 19 = .ok (.iload_n 2, 1) := by decide +kernel
theorem dX0_byteOf_20 : decode cX0_byteOf 20 = .ok (.istore 4, 2) := by decide +kernel
theorem dX0_byteOf_22 : decode cX0_byteOf 22 = .ok (.iload 4, 2) := by decide +kernel
theorem dX0_byteOf_24 : decode cX0_byteOf 24 = .ok (.bipush 24, 2) := by decide +kernel
theorem dX0_byteOf_26 : decode cX0_byteOf 26 = .ok (.bipush 8, 2) := by decide +kernel
theorem dX0_byteOf_28 : decode cX0_byteOf 28 = .ok (.iload_n 3, 1) := by decide +kernel
theorem dX0_byteOf_29 : decode cX0_byteOf 29 = .ok (.iconst 3, 1) := by decide +kernel
theorem dX0_byteOf_30 : decode cX0_byteOf 30 = .ok (.iand, 1) := by decide +kernel
theorem dX0_byteOf_31 : decode cX0_byteOf 31 = .ok (.imul, 1) := by decide +kernel
theorem dX0_byteOf_32 : decode cX0_byteOf 32 = .ok (.isub, 1) := by decide +kernel
theorem dX0_byteOf_33 : decode cX0_byteOf 33 = .ok (.iushr, 1) := by decide +kernel
theorem dX0_byteOf_34 : decode cX0_byteOf 34 = .ok (.sipush 255, 3) := by decide +kernel
theorem dX0_byteOf_37 : decode cX0_byteOf 37 = .ok (.iand, 1) := by decide +kernel
theorem dX0_byteOf_38 : decode cX0_byteOf 38 = .ok (.ireturn, 1) := by decide +kernel
theorem dX0_isDigit_0 : decode cX0_isDigit 0 = .ok (.iload_n 0, 1) := by decide +kernel
theorem dX0_isDigit_1 : decode cX0_isDigit 1 = .ok (.bipush 48, 2) := by decide +kernel
theorem dX0_isDigit_3 : decode cX0_isDigit 3 = .ok (.if_icmp .lt 13, 3) := by decide +kernel
theorem dX0_isDigit_6 : decode cX0_isDigit 6 = .ok (.iload_n 0, 1) := by decide +kernel
theorem dX0_isDigit_7 : decode cX0_isDigit 7 = .ok (.bipush 57, 2) := by decide +kernel
theorem dX0_isDigit_9 : decode cX0_isDigit 9 = .ok (.if_icmp .gt 7, 3) := by decide +kernel
theorem dX0_isDigit_12 : decode cX0_isDigit 12 = .ok (.iconst 1, 1) := by decide +kernel
theorem dX0_isDigit_13 : decode cX0_isDigit 13 = .ok (.goto 4, 3) := by decide +kernel
theorem dX0_isDigit_16 : decode cX0_isDigit 16 = .ok (.iconst 0, 1) := by decide +kernel
theorem dX0_isDigit_17 : decode cX0_isDigit 17 = .ok (.ireturn, 1) := by decide +kernel
theorem dX0_isMark_0 : decode cX0_isMark 0 = .ok (.iload_n 0, 1) := by decide +kernel
theorem dX0_isMark_1 : decode cX0_isMark 1 = .ok (.bipush 97, 2) := by decide +kernel
theorem dX0_isMark_3 : decode cX0_isMark 3 = .ok (.if_icmp .lt 9, 3) := by decide +kernel
theorem dX0_isMark_6 : decode cX0_isMark 6 = .ok (.iload_n 0, 1) := by decide +kernel
theorem dX0_isMark_7 : decode cX0_isMark 7 = .ok (.bipush 122, 2) := by decide +kernel
theorem dX0_isMark_9 : decode cX0_isMark 9 = .ok (.if_icmp .le 10, 3) := by decide +kernel
theorem dX0_isMark_12 : decode cX0_isMark 12 = .ok (.iload_n 0, 1) := by decide +kernel
theorem dX0_isMark_13 : decode cX0_isMark 13 = .ok (.invokestatic 40, 3) := by decide +kernel
theorem dX0_isMark_16 : decode cX0_isMark 16 = .ok (.ifCond .eq 7, 3) := by decide +kernel
theorem dX0_isMark_19 : decode cX0_isMark 19 = .ok (.iconst 1, 1) := by decide +kernel
theorem dX0_isMark_20 : decode cX0_isMark 20 = .ok (.goto 4, 3) := by decide +kernel
theorem dX0_isMark_23 : decode cX0_isMark 23 = .ok (.iconst 0, 1) := by decide +kernel
theorem dX0_isMark_24 : decode cX0_isMark 24 = .ok (.ireturn, 1) := by decide +kernel
theorem dX0_headingSize_0 : decode cX0_headingSize 0 = .ok (.iconst 0, 1) := by decide +kernel
theorem dX0_headingSize_1 : decode cX0_headingSize 1 = .ok (.istore_n 3, 1) := by decide +kernel
theorem dX0_headingSize_2 : decode cX0_headingSize 2 = .ok (.bipush 32, 2) := by decide +kernel
theorem dX0_headingSize_4 : decode cX0_headingSize 4 = .ok (.istore 4, 2) := by decide +kernel
theorem dX0_headingSize_6 : decode cX0_headingSize 6 = .ok (.iconst 0, 1) := by decide +kernel
theorem dX0_headingSize_7 : decode cX0_headingSize 7 = .ok (.istore 5, 2) := by decide +kernel
theorem dX0_headingSize_9 : decode cX0_headingSize 9 = .ok (.iload 5, 2) := by decide +kernel
theorem dX0_headingSize_11 : decode cX0_headingSize 11 = .ok (.bipush 12, 2) := by decide +kernel
theorem dX0_headingSize_13 : decode cX0_headingSize 13 = .ok (.if_icmp .ge 76, 3) := by decide +kernel
theorem dX0_headingSize_16 : decode cX0_headingSize 16 = .ok (.iload_n 0, 1) := by decide +kernel
theorem dX0_headingSize_17 : decode cX0_headingSize 17 = .ok (.iload_n 1, 1) := by decide +kernel
theorem dX0_headingSize_18 : decode cX0_headingSize 18 = .ok (.iload_n 2, 1) := by decide +kernel
theorem dX0_headingSize_19 : decode cX0_headingSize 19 = .ok (.iload 5, 2) := by decide +kernel
theorem dX0_headingSize_21 : decode cX0_headingSize 21 = .ok (.invokestatic 44, 3) := by decide +kernel
theorem dX0_headingSize_24 : decode cX0_headingSize 24 = .ok (.istore 6, 2) := by decide +kernel
theorem dX0_headingSize_26 : decode cX0_headingSize 26 = .ok (.iload 6, 2) := by decide +kernel
theorem dX0_headingSize_28 : decode cX0_headingSize 28 = .ok (.ifCond .ne 6, 3) := by decide +kernel
theorem dX0_headingSize_31 : decode cX0_headingSize 31 = .ok (.goto 52, 3) := by decide +kernel
theorem dX0_headingSize_34 : decode cX0_headingSize 34 = .ok (.iload 6, 2) := by decide +kernel
theorem dX0_headingSize_36 : decode cX0_headingSize 36 = .ok (.invokestatic 48, 3) := by decide +kernel
theorem dX0_headingSize_39 : decode cX0_headingSize 39 = .ok (.ifCond .ne 17, 3) := by decide +kernel
theorem dX0_headingSize_42 : decode cX0_headingSize 42 = .ok (.iload 6, 2) := by decide +kernel
theorem dX0_headingSize_44 : decode cX0_headingSize 44 = .ok (.bipush 32, 2) := by decide +kernel
theorem dX0_headingSize_46 : decode cX0_headingSize 46 = .ok (.if_icmp .ne 14, 3) := by decide +kernel
theorem dX0_headingSize_49 : decode cX0_headingSize 49 = .ok (.iload 4, 2) := by decide +kernel
theorem dX0_headingSize_51 : decode cX0_headingSize 51 = .ok (.bipush 32, 2) := by decide +kernel
theorem dX0_headingSize_53 : decode cX0_headingSize 53 = .ok (.if_icmp .eq 7, 3) := by decide +kernel
theorem dX0_headingSize_56 : decode cX0_headingSize 56 = .ok (.iconst 1, 1) := by decide +kernel
theorem dX0_headingSize_57 : decode cX0_headingSize 57 = .ok (.goto 4, 3) := by decide +kernel
theorem dX0_headingSize_60 : decode cX0_headingSize 60 = .ok (.iconst 0, 1) := by decide +kernel
theorem dX0_headingSize_61 : decode cX0_headingSize 61 = .ok (.istore 7, 2) := by decide +kernel
theorem dX0_headingSize_63 : decode cX0_headingSize 63 = .ok (.iload 7, 2) := by decide +kernel
theorem dX0_headingSize_65 : decode cX0_headingSize 65 = .ok (.ifCond .eq 9, 3) := by decide +kernel
theorem dX0_headingSize_68 : decode cX0_headingSize 68 = .ok (.iload_n 3, 1) := by decide +kernel
theorem dX0_headingSize_69 : decode cX0_headingSize 69 = .ok (.iload 5, 2) := by decide +kernel
theorem dX0_headingSize_71 : decode cX0_headingSize 71 = .ok (.if_icmp .ge 5, 3) := by decide +kernel
theorem dX0_headingSize_74 : decode cX0_headingSize 74 = .ok (.iconst (-1), 1) := by decide +kernel
theorem dX0_headingSize_75 : decode cX0_headingSize 75 = .ok (.ireturn, 1) := by decide +kernel
theorem dX0_headingSize_76 : decode cX0_headingSize 76 = .ok (.iload 6, 2) := by decide +kernel
theorem dX0_headingSize_78 : decode cX0_headingSize 78 = .ok (.istore 4, 2) := by decide +kernel
theorem dX0_headingSize_80 : decode cX0_headingSize 80 = .ok (.iinc 3 1, 3) := by decide +kernel
theorem dX0_headingSize_83 : decode cX0_headingSize 83 = .ok (.iinc 5 1, 3) := by decide +kernel
theorem dX0_headingSize_86 : decode cX0_headingSize 86 = .ok (.goto (-77), 3) := by decide +kernel
theorem dX0_headingSize_89 : decode cX0_headingSize 89 = .ok (.iload 4, 2) := by decide +kernel
theorem dX0_headingSize_91 : decode cX0_headingSize 91 = .ok (.bipush 32, 2) := by decide +kernel
theorem dX0_headingSize_93 : decode cX0_headingSize 93 = .ok (.if_icmp .ne 7, 3) := by decide +kernel
theorem dX0_headingSize_96 : decode cX0_headingSize 96 = .ok (.iconst (-1), 1) := by decide +kernel
theorem dX0_headingSize_97 : decode cX0_headingSize 97 = .ok (.goto 4, 3) := by decide +kernel
theorem dX0_headingSize_100 : decode cX0_headingSize 100 = .ok (.iload_n 3, 1) := by decide +kernel
theorem dX0_headingSize_101 : decode cX0_headingSize 101 = .ok (.ireturn, 1) := by decide +kernel
theorem dX0_readHeading_0 : decode cX0_readHeading 0 = .ok (.iconst 0, 1) := by decide +kernel
theorem dX0_readHeading_1 : decode cX0_readHeading 1 = .ok (.istore 4, 2) := by decide +kernel
theorem dX0_readHeading_3 : decode cX0_readHeading 3 = .ok (.iload 4, 2) := by decide +kernel
theorem dX0_readHeading_5 : decode cX0_readHeading 5 = .ok (.aload_n 0, 1) := by decide +kernel
theorem dX0_readHeading_6 : decode cX0_readHeading 6 = .ok (.getfield 36, 3) := by decide +kernel
theorem dX0_readHeading_9 : decode cX0_readHeading 9 = .ok (.arraylength, 1) := by decide +kernel
theorem dX0_readHeading_10 : decode cX0_readHeading 10 = .ok (.if_icmp .ge 25, 3) := by decide +kernel
theorem dX0_readHeading_13 : decode cX0_readHeading 13 = .ok (.aload_n 0, 1) := by decide +kernel
theorem dX0_readHeading_14 : decode cX0_readHeading 14 = .ok (.getfield 36, 3) := by decide +kernel
theorem dX0_readHeading_17 : decode cX0_readHeading 17 = .ok (.iload 4, 2) := by decide +kernel
theorem dX0_readHeading_19 : decode cX0_readHeading 19 = .ok (.iload_n 1, 1) := by decide +kernel
theorem dX0_readHeading_20 : decode cX0_readHeading 20 = .ok (.iload_n 2, 1) := by decide +kernel
theorem dX0_readHeading_21 : decode cX0_readHeading 21 = .ok (.iload_n 3, 1) := by decide +kernel
theorem dX0_readHeading_22 : decode cX0_readHeading 22 = .ok (.iload 4, 2) := by decide +kernel
theorem dX0_readHeading_24 : decode cX0_readHeading 24 = .ok (.invokestatic 44, 3) := by decide +kernel
theorem dX0_readHeading_27 : decode cX0_readHeading 27 = .ok (.i2b, 1) := by decide +kernel
theorem dX0_readHeading_28 : decode cX0_readHeading 28 = .ok (.bastore, 1) := by decide +kernel
theorem dX0_readHeading_29 : decode cX0_readHeading 29 = .ok (.iinc 4 1, 3) := by decide +kernel
theorem dX0_readHeading_32 : decode cX0_readHeading 32 = .ok (.goto (-29), 3) := by decide +kernel
theorem dX0_readHeading_35 : decode cX0_readHeading 35 = .ok (.iconst 0, 1) := by decide +kernel
theorem dX0_readHeading_36 : decode cX0_readHeading 36 = .ok (.istore 4, 2) := by decide +kernel
theorem dX0_readHeading_38 : decode cX0_readHeading 38 = .ok (.iload 4, 2) := by decide +kernel
theorem dX0_readHeading_40 : decode cX0_readHeading 40 = .ok (.aload_n 0, 1) := by decide +kernel
theorem dX0_readHeading_41 : decode cX0_readHeading 41 = .ok (.getfield 36, 3) := by decide +kernel
theorem dX0_readHeading_44 : decode cX0_readHeading 44 = .ok (.arraylength, 1) := by decide +kernel
theorem dX0_readHeading_45 : decode cX0_readHeading 45 = .ok (.if_icmp .ge 49, 3) := by decide +kernel
theorem dX0_readHeading_48 : decode cX0_readHeading 48 = .ok (.aload_n 0, 1) := by decide +kernel
theorem dX0_readHeading_49 : decode cX0_readHeading 49 = .ok (.getfield 36, 3) := by decide +kernel
theorem dX0_readHeading_52 : decode cX0_readHeading 52 = .ok (.iload 4, 2) := by decide +kernel
theorem dX0_readHeading_54 : decode cX0_readHeading 54 = .ok (.baload, 1) := by decide +kernel
theorem dX0_readHeading_55 : decode cX0_readHeading 55 = .ok (.bipush 32, 2) := by decide +kernel
theorem dX0_readHeading_57 : decode cX0_readHeading 57 = .ok (.if_icmp .eq 37, 3) := by decide +kernel
theorem dX0_readHeading_60 : decode cX0_readHeading 60 = .ok (.aload_n 0, 1) := by decide +kernel
theorem dX0_readHeading_61 : decode cX0_readHeading 61 = .ok (.aload_n 0, 1) := by decide +kernel
theorem dX0_readHeading_62 : decode cX0_readHeading 62 = .ok (.getfield 51, 3) := by decide +kernel
theorem dX0_readHeading_65 : decode cX0_readHeading 65 = .ok (.bipush 8, 2) := by decide +kernel
theorem dX0_readHeading_67 : decode cX0_readHeading 67 = .ok (.lshl, 1) := by decide +kernel
theorem dX0_readHeading_68 : decode cX0_readHeading 68 = .ok (.aload_n 0, 1) := by decide +kernel
theorem dX0_readHeading_69 : decode cX0_readHeading 69 = .ok (.getfield 36, 3) := by decide +kernel
theorem dX0_readHeading_72 : decode cX0_readHeading 72 = .ok (.iload 4, 2) := by decide +kernel
theorem dX0_readHeading_74 : decode cX0_readHeading 74 = .ok (.baload, 1) := by decide +kernel
theorem dX0_readHeading_75 : decode cX0_readHeading 75 = .ok (.i2l, 1) := by decide +kernel
theorem dX0_readHeading_76 : decode cX0_readHeading 76 = .ok (.lor, 1) := by decide +kernel
theorem dX0_readHeading_77 : decode cX0_readHeading 77 = .ok (.putfield 51, 3) := by decide +kernel
theorem dX0_readHeading_80 : decode cX0_readHeading 80 = .ok (.aload_n 0, 1) := by decide +kernel
theorem dX0_readHeading_81 : decode cX0_readHeading 81 = .ok (.iload 4, 2) := by decide +kernel
theorem dX0_readHeading_83 : decode cX0_readHeading 83 = .ok (.iconst 2, 1) := by decide +kernel
theorem dX0_readHeading_84 : decode cX0_readHeading 84 = .ok (.iadd, 1) := by decide +kernel
theorem dX0_readHeading_85 : decode cX0_readHeading 85 = .ok (.putfield 55, 3) := by decide +kernel
theorem dX0_readHeading_88 : decode cX0_readHeading 88 = .ok (.iinc 4 1, 3) := by decide +kernel
theorem dX0_readHeading_91 : decode cX0_readHeading 91 = .ok (.goto (-53), 3) := by decide +kernel
theorem dX0_readHeading_94 : decode cX0_readHeading 94 = .ok (.aload_n 0, 1) := by decide +kernel
theorem dX0_readHeading_95 : decode cX0_readHeading 95 = .ok (.getfield 55, 3) := by decide +kernel
theorem dX0_readHeading_98 : decode cX0_readHeading 98 = .ok (.aload_n 0, 1) := by decide +kernel
theorem dX0_readHeading_99 : decode cX0_readHeading 99 = .ok (.getfield 36, 3) := by decide +kernel
theorem dX0_readHeading_102 : decode cX0_readHeading 102 = .ok (.arraylength, 1) := by decide +kernel
theorem dX0_readHeading_103 : decode cX0_readHeading 103 = .ok (.if_icmp .gt 12, 3) := by decide +kernel
theorem dX0_readHeading_106 : decode cX0_readHeading 106 = .ok (.aload_n 0, 1) := by decide +kernel
theorem dX0_readHeading_107 : decode cX0_readHeading 107 = .ok (.getfield 55, 3) := by decide +kernel
theorem dX0_readHeading_110 : decode cX0_readHeading 110 = .ok (.bipush 9, 2) := by decide +kernel
theorem dX0_readHeading_112 : decode cX0_readHeading 112 = .ok (.if_icmp .le 8, 3) := by decide +kernel
theorem dX0_readHeading_115 : decode cX0_readHeading 115 = .ok (.aload_n 0, 1) := by decide +kernel
theorem dX0_readHeading_116 : decode cX0_readHeading 116 = .ok (.iconst 0, 1) := by decide +kernel
theorem dX0_readHeading_117 : decode cX0_readHeading 117 = .ok (.putfield 55, 3) := by decide +kernel
theorem dX0_readHeading_120 : decode cX0_readHeading 120 = .ok (.return_, 1) := by decide +kernel
theorem dX0_byteAt_0 : decode cX0_byteAt 0 = .ok (.iload_n 1, 1) := by decide +kernel
theorem dX0_byteAt_1 : decode cX0_byteAt 1 = .ok (.ifCond .lt 21, 3) := by decide +kernel
theorem dX0_byteAt_4 : decode cX0_byteAt 4 = .ok (.iload_n 1, 1) := by decide +kernel
theorem dX0_byteAt_5 : decode cX0_byteAt 5 = .ok (.aload_n 0, 1) := by decide +kernel
theorem dX0_byteAt_6 : decode cX0_byteAt 6 = .ok (.getfield 36, 3) := by decide +kernel
theorem dX0_byteAt_9 : decode cX0_byteAt 9 = .ok (.arraylength, 1) := by decide +kernel
theorem dX0_byteAt_10 : decode cX0_byteAt 10 = .ok (.if_icmp .ge 12, 3) := by decide +kernel
theorem dX0_byteAt_13 : decode cX0_byteAt 13 = .ok (.aload_n 0, 1) := by decide +kernel
theorem dX0_byteAt_14 : decode cX0_byteAt 14 = .ok (.getfield 36, 3) := by decide +kernel
theorem dX0_byteAt_17 : decode cX0_byteAt 17 = .ok (.iload_n 1, 1) := by decide +kernel
theorem dX0_byteAt_18 : decode cX0_byteAt 18 = .ok (.baload, 1) := by decide +kernel
theorem dX0_byteAt_19 : decode cX0_byteAt 19 = .ok (.goto 4, 3) := by decide +kernel
theorem dX0_byteAt_22 : decode cX0_byteAt 22 = .ok (.iconst 0, 1) := by decide +kernel
theorem dX0_byteAt_23 : decode cX0_byteAt 23 = .ok (.ireturn, 1) := by decide +kernel
theorem dX0_isDone_0 : decode cX0_isDone 0 = .ok (.aload_n 0, 1) := by decide +kernel
theorem dX0_isDone_1 : decode cX0_isDone 1 = .ok (.getfield 60, 3) := by decide +kernel
theorem dX0_isDone_4 : decode cX0_isDone 4 = .ok (.aload_n 0, 1) := by decide +kernel
theorem dX0_isDone_5 : decode cX0_isDone 5 = .ok (.getfield 63, 3) := by decide +kernel
theorem dX0_isDone_8 : decode cX0_isDone 8 = .ok (.if_icmp .lt 7, 3) := by decide +kernel
theorem dX0_isDone_11 : decode cX0_isDone 11 = .ok (.iconst 1, 1) := by decide +kernel
theorem dX0_isDone_12 : decode cX0_isDone 12 = .ok (.goto 4, 3) := by decide +kernel
theorem dX0_isDone_15 : decode cX0_isDone 15 = .ok (.iconst 0, 1) := by decide +kernel
theorem dX0_isDone_16 : decode cX0_isDone 16 = .ok (.ireturn, 1) := by decide +kernel
theorem dX0_isUnfinishedOf_0 : decode cX0_isUnfinishedOf 0 = .ok (.aload_n 0, 1) := by decide +kernel
theorem dX0_isUnfinishedOf_1 : decode cX0_isUnfinishedOf 1 = .ok (.getfield 27, 3) := by decide +kernel
theorem dX0_isUnfinishedOf_4 : decode cX0_isUnfinishedOf 4 = .ok (.ifCond .ne 34, 3) := by decide +kernel
theorem dX0_isUnfinishedOf_7 : decode cX0_isUnfinishedOf 7 = .ok (.aload_n 0, 1) := by decide +kernel
theorem dX0_isUnfinishedOf_8 : decode cX0_isUnfinishedOf 8 = .ok (.getfield 21, 3) := by decide +kernel
theorem dX0_isUnfinishedOf_11 : decode cX0_isUnfinishedOf 11 = .ok (.iload_n 1, 1) := by decide +kernel
theorem dX0_isUnfinishedOf_12 : decode cX0_isUnfinishedOf 12 = .ok (.if_icmp .ne 26, 3) := by decide +kernel
theorem dX0_isUnfinishedOf_15 : decode cX0_isUnfinishedOf 15 = .ok (.aload_n 0, 1) := by decide +kernel
theorem dX0_isUnfinishedOf_16 : decode cX0_isUnfinishedOf 16 = .ok (.getfield 60, 3) := by decide +kernel
theorem dX0_isUnfinishedOf_19 : decode cX0_isUnfinishedOf 19 = .ok (.aload_n 0, 1) := by decide +kernel
theorem dX0_isUnfinishedOf_20 : decode cX0_isUnfinishedOf 20 = .ok (.getfield 63, 3) := by decide +kernel
theorem dX0_isUnfinishedOf_23 : decode cX0_isUnfinishedOf 23 = .ok (.if_icmp .ge 15, 3) := by decide +kernel
theorem dX0_isUnfinishedOf_26 : decode cX0_isUnfinishedOf 26 = .ok (.aload_n 0, 1) := by decide +kernel
theorem dX0_isUnfinishedOf_27 : decode cX0_isUnfinishedOf 27 = .ok (.getfield 66, 3) := by decide +kernel
theorem dX0_isUnfinishedOf_30 : decode cX0_isUnfinishedOf 30 = .ok (.iconst 1, 1) := by decide +kernel
theorem dX0_isUnfinishedOf_31 : decode cX0_isUnfinishedOf 31 = .ok (.if_icmp .eq 7, 3) := by decide +kernel
theorem dX0_isUnfinishedOf_34 : decode cX0_isUnfinishedOf 34 = .ok (.iconst 1, 1) := by decide +kernel
theorem dX0_isUnfinishedOf_35 : decode cX0_isUnfinishedOf 35 = .ok (.goto 4, 3) := by decide +kernel
theorem dX0_isUnfinishedOf_38 : decode cX0_isUnfinishedOf 38 = .ok (.iconst 0, 1) := by decide +kernel
theorem dX0_isUnfinishedOf_39 : decode cX0_isUnfinishedOf 39 = .ok (.ireturn, 1) := by decide +kernel
theorem dX1_init_0 : decode cX1_init 0 = .ok (.aload_n 0, 1) := by decide +kernel
theorem dX1_init_1 : decode cX1_init 1 = .ok (.invokespecial 5, 3) := by decide +kernel
theorem dX1_init_4 : decode cX1_init 4 = .ok (.aload_n 0, 1) := by decide +kernel
theorem dX1_init_5 : decode cX1_init 5 = .ok (.bipush 7, 2) := by decide +kernel
theorem dX1_init_7 : decode cX1_init 7 = .ok (.newarray .int, 2) := by decide +kernel
theorem dX1_init_9 : decode cX1_init 9 = .ok (.putfield 11, 3) := by decide +kernel
theorem dX1_init_12 : decode cX1_init 12 = .ok (.aload_n 0, 1) := by decide +kernel
theorem dX1_init_13 : decode cX1_init 13 = .ok (.bipush 7, 2) := by decide +kernel
theorem dX1_init_15 : decode cX1_init 15 = .ok (.newarray .int, 2) := by decide +kernel
theorem dX1_init_17 : decode cX1_init 17 = .ok (.putfield 15, 3) := by decide +kernel
theorem dX1_init_20 : decode cX1_init 20 = .ok (.aload_n 0, 1) := by decide +kernel
theorem dX1_init_21 : decode cX1_init 21 = .ok (.bipush 7, 2) := by decide +kernel
theorem dX1_init_23 : decode cX1_init 23 = .ok (.newarray .int, 2) := by decide +kernel
theorem dX1_init_25 : decode cX1_init 25 = .ok (.putfield 18, 3) := by decide +kernel
theorem dX1_init_28 : decode cX1_init 28 = .ok (.aload_n 0, 1) := by decide +kernel
theorem dX1_init_29 : decode cX1_init 29 = .ok (.bipush 6, 2) := by decide +kernel
theorem dX1_init_31 : decode cX1_init 31 = .ok (.newarray .int, 2) := by decide +kernel
theorem dX1_init_33 : decode cX1_init 33 = .ok (.putfield 21, 3) := by decide +kernel
theorem dX1_init_36 : decode cX1_init 36 = .ok (.aload_n 0, 1) := by decide +kernel
theorem dX1_init_37 : decode cX1_init 37 = .ok (.bipush 6, 2) := by decide +kernel
theorem dX1_init_39 : decode cX1_init 39 = .ok (.newarray .int, 2) := by decide +kernel
theorem dX1_init_41 : decode cX1_init 41 = .ok (.putfield 24, 3) := by decide +kernel
theorem dX1_init_44 : decode cX1_init 44 = .ok (.aload_n 0, 1) := by decide +kernel
theorem dX1_init_45 : decode cX1_init 45 = .ok (.bipush 6, 2) := by decide +kernel
theorem dX1_init_47 : decode cX1_init 47 = .ok (.newarray .int, 2) := by decide +kernel
theorem dX1_init_49 : decode cX1_init 49 = .ok (.putfield 27, 3) := by decide +kernel
theorem dX1_init_52 : decode cX1_init 52 = .ok (.aload_n 0, 1) := by decide +kernel
theorem dX1_init_53 : decode cX1_init 53 = .ok (.sipush 128, 3) := by decide +kernel
theorem dX1_init_56 : decode cX1_init 56 = .ok (.newarray .int, 2) := by decide +kernel
theorem dX1_init_58 : decode cX1_init 58 = .ok (.putfield 30, 3) := by decide +kernel
theorem dX1_init_61 : decode cX1_init 61 = .ok (.aload_n 0, 1) := by decide +kernel
theorem dX1_init_62 : decode cX1_init 62 = .ok (.sipush 128, 3) := by decide +kernel
theorem dX1_init_65 : decode cX1_init 65 = .ok (.newarray .boolean, 2) := by decide +kernel
theorem dX1_init_67 : decode cX1_init 67 = .ok (.putfield 33, 3) := by decide +kernel
theorem dX1_init_70 : decode cX1_init 70 = .ok (.return_, 1) := by decide +kernel
theorem dX1_begin_0 : decode cX1_begin 0 = .ok (.aload_n 0, 1) := by decide +kernel
theorem dX1_begin_1 : decode cX1_begin 1 = .ok (.iconst 0, 1) := by decide +kernel
theorem dX1_begin_2 : decode cX1_begin 2 = .ok (.putfield 37, 3) := by decide +kernel
theorem dX1_begin_5 : decode cX1_begin 5 = .ok (.aload_n 0, 1) := by decide +kernel
theorem dX1_begin_6 : decode cX1_begin 6 = .ok (.iconst 0, 1) := by decide +kernel
theorem dX1_begin_7 : decode cX1_begin 7 = .ok (.putfield 41, 3) := by decide +kernel
theorem dX1_begin_10 : decode cX1_begin 10 = .ok (.return_, 1) := by decide +kernel
theorem dX1_addHand_0 : decode cX1_addHand 0 = .ok (.aload_n 0, 1) := by decide +kernel
theorem dX1_addHand_1 : decode cX1_addHand 1 = .ok (.getfield 41, 3) := by decide +kernel
theorem dX1_addHand_4 : decode cX1_addHand 4 = .ok (.ifCond .lt 52, 3) := by decide +kernel
theorem dX1_addHand_7 : decode cX1_addHand 7 = .ok (.aload_n 0, 1) := by decide +kernel
theorem dX1_addHand_8 : decode cX1_addHand 8 = .ok (.getfield 41, 3) := by decide +kernel
theorem dX1_addHand_11 : decode cX1_addHand 11 = .ok (.bipush 6, 2) := by decide +kernel
theorem dX1_addHand_13 : decode cX1_addHand 13 = .ok (.if_icmp .ge 43, 3) := by decide +kernel
theorem dX1_addHand_16 : decode cX1_addHand 16 = .ok (.aload_n 0, 1) := by decide +kernel
theorem dX1_addHand_17 : decode cX1_addHand 17 = .ok (.getfield 21, 3) := by decide +kernel
theorem dX1_addHand_20 : decode cX1_addHand 20 = .ok (.aload_n 0, 1) := by decide +kernel
theorem dX1_addHand_21 : decode cX1_addHand 21 = .ok (.getfield 41, 3) := by decide +kernel
theorem dX1_addHand_24 : decode cX1_addHand 24 = .ok (.iload_n 1, 1) := by decide +kernel
theorem dX1_addHand_25 : decode cX1_addHand 25 = .ok (.iastore, 1) := by decide +kernel
theorem dX1_addHand_26 : decode cX1_addHand 26 = .ok (.aload_n 0, 1) := by decide +kernel
theorem dX1_addHand_27 : decode cX1_addHand 27 = .ok (.getfield 24, 3) := by decide +kernel
theorem dX1_addHand_30 : decode cX1_addHand 30 = .ok (.aload_n 0, 1) := by decide +kernel
theorem dX1_addHand_31 : decode cX1_addHand 31 = .ok (.getfield 41, 3) := by decide +kernel
theorem dX1_addHand_34 : decode cX1_addHand 34 = .ok (.iload_n 2, 1) := by decide +kernel
theorem dX1_addHand_35 : decode cX1_addHand 35 = .ok (.iastore, 1) := by decide +kernel
theorem dX1_addHand_36 : decode cX1_addHand 36 = .ok (.aload_n 0, 1) := by decide +kernel
theorem dX1_addHand_37 : decode cX1_addHand 37 = .ok (.getfield 27, 3) := by decide +kernel
theorem dX1_addHand_40 : decode cX1_addHand 40 = .ok (.aload_n 0, 1) := by decide +kernel
theorem dX1_addHand_41 : decode cX1_addHand 41 = .ok (.getfield 41, 3) := by decide +kernel
theorem dX1_addHand_44 : decode cX1_addHand 44 = .ok (.iconst 0, 1) := by decide +kernel
theorem dX1_addHand_45 : decode cX1_addHand 45 = .ok (.iastore, 1) := by decide +kernel
theorem dX1_addHand_46 : decode cX1_addHand 46 = .ok (.aload_n 0, 1) := by decide +kernel
theorem dX1_addHand_47 : decode cX1_addHand 47 = .ok (.dup, 1) := by decide +kernel
theorem dX1_addHand_48 : decode cX1_addHand 48 = .ok (.getfield 41, 3) := by decide +kernel
theorem dX1_addHand_51 : decode cX1_addHand 51 = .ok (.iconst 1, 1) := by decide +kernel
theorem dX1_addHand_52 : decode cX1_addHand 52 = .ok (.iadd, 1) := by decide +kernel
theorem dX1_addHand_53 : decode cX1_addHand 53 = .ok (.putfield 41, 3) := by decide +kernel
theorem dX1_addHand_56 : decode cX1_addHand 56 = .ok (.return_, 1) := by decide +kernel
theorem dX1_addArticle_0 : decode cX1_addArticle 0 = .ok (.aload_n 0, 1) := by decide +kernel
theorem dX1_addArticle_1 : decode cX1_addArticle 1 = .ok (.getfield 37, 3) := by decide +kernel
theorem dX1_addArticle_4 : decode cX1_addArticle 4 = .ok (.ifCond .lt 52, 3) := by decide +kernel
theorem dX1_addArticle_7 : decode cX1_addArticle 7 = .ok (.aload_n 0, 1) := by decide +kernel
theorem dX1_addArticle_8 : decode cX1_addArticle 8 = .ok (.getfield 37, 3) := by decide +kernel
theorem dX1_addArticle_11 : decode cX1_addArticle 11 = .ok (.bipush 7, 2) := by decide +kernel
theorem dX1_addArticle_13 : decode cX1_addArticle 13 = .ok (.if_icmp .ge 43, 3) := by decide +kernel
theorem dX1_addArticle_16 : decode cX1_addArticle 16 = .ok (.aload_n 0, 1) := by decide +kernel
theorem dX1_addArticle_17 : decode cX1_addArticle 17 = .ok (.getfield 11, 3) := by decide +kernel
theorem dX1_addArticle_20 : decode cX1_addArticle 20 = .ok (.aload_n 0, 1) := by decide +kernel
theorem dX1_addArticle_21 : decode cX1_addArticle 21 = .ok (.getfield 37, 3) := by decide +kernel
theorem dX1_addArticle_24 : decode cX1_addArticle 24 = .ok (.iload_n 1, 1) := by decide +kernel
theorem dX1_addArticle_25 : decode cX1_addArticle 25 = .ok (.iastore, 1) := by decide +kernel
theorem dX1_addArticle_26 : decode cX1_addArticle 26 = .ok (.aload_n 0, 1) := by decide +kernel
theorem dX1_addArticle_27 : decode cX1_addArticle 27 = .ok (.getfield 15, 3) := by decide +kernel
theorem dX1_addArticle_30 : decode cX1_addArticle 30 = .ok (.aload_n 0, 1) := by decide +kernel
theorem dX1_addArticle_31 : decode cX1_addArticle 31 = .ok (.getfield 37, 3) := by decide +kernel
theorem dX1_addArticle_34 : decode cX1_addArticle 34 = .ok (.iload_n 2, 1) := by decide +kernel
theorem dX1_addArticle_35 : decode cX1_addArticle 35 = .ok (.iastore, 1) := by decide +kernel
theorem dX1_addArticle_36 : decode cX1_addArticle 36 = .ok (.aload_n 0, 1) := by decide +kernel
theorem dX1_addArticle_37 : decode cX1_addArticle 37 = .ok (.getfield 18, 3) := by decide +kernel
theorem dX1_addArticle_40 : decode cX1_addArticle 40 = .ok (.aload_n 0, 1) := by decide +kernel
theorem dX1_addArticle_41 : decode cX1_addArticle 41 = .ok (.getfield 37, 3) := by decide +kernel
theorem dX1_addArticle_44 : decode cX1_addArticle 44 = .ok (.iconst (-1), 1) := by decide +kernel
theorem dX1_addArticle_45 : decode cX1_addArticle 45 = .ok (.iastore, 1) := by decide +kernel
theorem dX1_addArticle_46 : decode cX1_addArticle 46 = .ok (.aload_n 0, 1) := by decide +kernel
theorem dX1_addArticle_47 : decode cX1_addArticle 47 = .ok (.dup, 1) := by decide +kernel
theorem dX1_addArticle_48 : decode cX1_addArticle 48 = .ok (.getfield 37, 3) := by decide +kernel
theorem dX1_addArticle_51 : decode cX1_addArticle 51 = .ok (.iconst 1, 1) := by decide +kernel
theorem dX1_addArticle_52 : decode cX1_addArticle 52 = .ok (.iadd, 1) := by decide +kernel
theorem dX1_addArticle_53 : decode cX1_addArticle 53 = .ok (.putfield 37, 3) := by decide +kernel
theorem dX1_addArticle_56 : decode cX1_addArticle 56 = .ok (.return_, 1) := by decide +kernel
theorem dX1_handNumber_0 : decode cX1_handNumber 0 = .ok (.iload_n 1, 1) := by decide +kernel
theorem dX1_handNumber_1 : decode cX1_handNumber 1 = .ok (.ifCond .lt 18, 3) := by decide +kernel
theorem dX1_handNumber_4 : decode cX1_handNumber 4 = .ok (.iload_n 1, 1) := by decide +kernel
theorem dX1_handNumber_5 : decode cX1_handNumber 5 = .ok (.bipush 6, 2) := by decide +kernel
theorem dX1_handNumber_7 : decode cX1_handNumber 7 = .ok (.if_icmp .ge 12, 3) := by decide +kernel
theorem dX1_handNumber_10 : decode cX1_handNumber 10 = .ok (.aload_n 0, 1) := by decide +kernel
theorem dX1_handNumber_11 : decode cX1_handNumber 11 = .ok (.getfield 21, 3) := by decide +kernel
theorem dX1_handNumber_14 : decode cX1_handNumber 14 = .ok (.iload_n 1, 1) := by decide +kernel
theorem dX1_handNumber_15 : decode cX1_handNumber 15 = .ok (.iaload, 1) := by decide +kernel
theorem dX1_handNumber_16 : decode cX1_handNumber 16 = .ok (.goto 4, 3) := by decide +kernel
theorem dX1_handNumber_19 : decode cX1_handNumber 19 = .ok (.iconst (-1), 1) := by decide +kernel
theorem dX1_handNumber_20 : decode cX1_handNumber 20 = .ok (.ireturn, 1) := by decide +kernel
theorem dX1_allow_0 : decode cX1_allow 0 = .ok (.iload_n 1, 1) := by decide +kernel
theorem dX1_allow_1 : decode cX1_allow 1 = .ok (.ifCond .lt 33, 3) := by decide +kernel
theorem dX1_allow_4 : decode cX1_allow 4 = .ok (.iload_n 1, 1) := by decide +kernel
theorem dX1_allow_5 : decode cX1_allow 5 = .ok (.bipush 6, 2) := by decide +kernel
theorem dX1_allow_7 : decode cX1_allow 7 = .ok (.if_icmp .ge 27, 3) := by decide +kernel
theorem dX1_allow_10 : decode cX1_allow 10 = .ok (.aload_n 0, 1) := by decide +kernel
theorem dX1_allow_11 : decode cX1_allow 11 = .ok (.getfield 37, 3) := by decide +kernel
theorem dX1_allow_14 : decode cX1_allow 14 = .ok (.ifCond .le 20, 3) := by decide +kernel
theorem dX1_allow_17 : decode cX1_allow 17 = .ok (.aload_n 0, 1) := by decide +kernel
theorem dX1_allow_18 : decode cX1_allow 18 = .ok (.getfield 27, 3) := by decide +kernel
theorem dX1_allow_21 : decode cX1_allow 21 = .ok (.iload_n 1, 1) := by decide +kernel
theorem dX1_allow_22 : decode cX1_allow 22 = .ok (.dup2, 1) := by decide +kernel
theorem dX1_allow_23 : decode cX1_allow 23 = .ok (.iaload, 1) := by decide +kernel
theorem dX1_allow_24 : decode cX1_allow 24 = .ok (.iconst 1, 1) := by decide +kernel
theorem dX1_allow_25 : decode cX1_allow 25 = .ok (.aload_n 0, 1) := by decide +kernel
theorem dX1_allow_26 : decode cX1_allow 26 = .ok (.getfield 37, 3) := by decide +kernel
theorem dX1_allow_29 : decode cX1_allow 29 = .ok (.iconst 1, 1) := by decide +kernel
theorem dX1_allow_30 : decode cX1_allow 30 = .ok (.isub, 1) := by decide +kernel
theorem dX1_allow_31 : decode cX1_allow 31 = .ok (.ishl, 1) := by decide +kernel
theorem dX1_allow_32 : decode cX1_allow 32 = .ok (.ior, 1) := by decide +kernel
theorem dX1_allow_33 : decode cX1_allow 33 = .ok (.iastore, 1) := by decide +kernel
theorem dX1_allow_34 : decode cX1_allow 34 = .ok (.return_, 1) := by decide +kernel
theorem dX1_handOf_0 : decode cX1_handOf 0 = .ok (.iconst 0, 1) := by decide +kernel
theorem dX1_handOf_1 : decode cX1_handOf 1 = .ok (.istore_n 2, 1) := by decide +kernel
theorem dX1_handOf_2 : decode cX1_handOf 2 = .ok (.iload_n 2, 1) := by decide +kernel
theorem dX1_handOf_3 : decode cX1_handOf 3 = .ok (.aload_n 0, 1) := by decide +kernel
theorem dX1_handOf_4 : decode cX1_handOf 4 = .ok (.getfield 37, 3) := by decide +kernel
theorem dX1_handOf_7 : decode cX1_handOf 7 = .ok (.if_icmp .ge 36, 3) := by decide +kernel
theorem dX1_handOf_10 : decode cX1_handOf 10 = .ok (.iload_n 2, 1) := by decide +kernel
theorem dX1_handOf_11 : decode cX1_handOf 11 = .ok (.bipush 7, 2) := by decide +kernel
theorem dX1_handOf_13 : decode cX1_handOf 13 = .ok (.if_icmp .ge 30, 3) := by decide +kernel
theorem dX1_handOf_16 : decode cX1_handOf 16 = .ok (.aload_n 0, 1) := by decide +kernel
theorem dX1_handOf_17 : decode cX1_handOf 17 = .ok (.getfield 11, 3) := by decide +kernel
theorem dX1_handOf_20 : decode cX1_handOf 20 = .ok (.iload_n 2, 1) := by decide +kernel
theorem dX1_handOf_21 : decode cX1_handOf 21 = .ok (.iaload, 1) := by decide +kernel
theorem dX1_handOf_22 : decode cX1_handOf 22 = .ok (.iload_n 1, 1) := by decide +kernel
theorem dX1_handOf_23 : decode cX1_handOf 23 = .ok (.if_icmp .ne 14, 3) := by decide +kernel
theorem dX1_handOf_26 : decode cX1_handOf 26 = .ok (.aload_n 0, 1) := by decide +kernel
theorem dX1_handOf_27 : decode cX1_handOf 27 = .ok (.aload_n 0, 1) := by decide +kernel
theorem dX1_handOf_28 : decode cX1_handOf 28 = .ok (.getfield 18, 3) := by decide +kernel
theorem dX1_handOf_31 : decode cX1_handOf 31 = .ok (.iload_n 2, 1) := by decide +kernel
theorem dX1_handOf_32 : decode cX1_handOf 32 = .ok (.iaload, 1) := by decide +kernel
theorem dX1_handOf_33 : decode cX1_handOf 33 = .ok (.invokevirtual 44, 3) := by decide +kernel
theorem dX1_handOf_36 : decode cX1_handOf 36 = .ok (.ireturn, 1) := by decide +kernel
theorem dX1_handOf_37 : decode cX1_handOf 37 = .ok (.iinc 2 1, 3) := by decide +kernel
theorem dX1_handOf_40 : decode cX1_handOf 40 = .ok (.goto (-38), 3) := by decide +kernel
theorem dX1_handOf_43 : decode cX1_handOf 43 = .ok (.iconst (-1), 1) := by decide +kernel
theorem dX1_handOf_44 : decode cX1_handOf 44 = .ok (.ireturn, 1) := by decide +kernel
theorem dX1_choose_0 : decode cX1_choose 0 = .ok (.aload_n 0, 1) := by decide +kernel
theorem dX1_choose_1 : decode cX1_choose 1 = .ok (.iconst 0, 1) := by decide +kernel
theorem dX1_choose_2 : decode cX1_choose 2 = .ok (.invokevirtual 48, 3) := by decide +kernel
theorem dX1_choose_5 : decode cX1_choose 5 = .ok (.istore_n 1, 1) := by decide +kernel
theorem dX1_choose_6 : decode cX1_choose 6 = .ok (.iconst 0, 1) := by decide +kernel
theorem dX1_choose_7 : decode cX1_choose 7 = .ok (.istore_n 2, 1) := by decide +kernel
theorem dX1_choose_8 : decode cX1_choose 8 = .ok (.iconst 0, 1) := by decide +kernel
theorem dX1_choose_9 : decode cX1_choose 9 = .ok (.istore_n 3, 1) := by decide +kernel
theorem dX1_choose_10 : decode cX1_choose 10 = .ok (.iload_n 3, 1) := by decide +kernel
theorem dX1_choose_11 : decode cX1_choose 11 = .ok (.aload_n 0, 1) := by decide +kernel
theorem dX1_choose_12 : decode cX1_choose 12 = .ok (.getfield 37, 3) := by decide +kernel
theorem dX1_choose_15 : decode cX1_choose 15 = .ok (.if_icmp .ge 60, 3) := by decide +kernel
theorem dX1_choose_18 : decode cX1_choose 18 = .ok (.iload_n 3, 1) := by decide +kernel
theorem dX1_choose_19 : decode cX1_choose 19 = .ok (.bipush 7, 2) := by decide +kernel
theorem dX1_choose_21 : decode cX1_choose 21 = .ok (.if_icmp .ge 54, 3) := by decide +kernel
theorem dX1_choose_24 : decode cX1_choose 24 = .ok (.sipush 10000, 3) := by decide +kernel
theorem dX1_choose_27 : decode cX1_choose 27 = .ok (.aload_n 0, 1) := by decide +kernel
theorem dX1_choose_28 : decode cX1_choose 28 = .ok (.getfield 15, 3) := by decide +kernel
theorem dX1_choose_31 : decode cX1_choose 31 = .ok (.iload_n 3, 1) := by decide +kernel
theorem dX1_choose_32 : decode cX1_choose 32 = .ok (.iaload, 1) := by decide +kernel
theorem dX1_choose_33 : decode cX1_choose 33 = .ok (.isub, 1) := by decide +kernel
theorem dX1_choose_34 : decode cX1_choose 34 = .ok (.istore 4, 2) := by decide +kernel
theorem dX1_choose_36 : decode cX1_choose 36 = .ok (.aload_n 0, 1) := by decide +kernel
theorem dX1_choose_37 : decode cX1_choose 37 = .ok (.getfield 18, 3) := by decide +kernel
theorem dX1_choose_40 : decode cX1_choose 40 = .ok (.iload_n 3, 1) := by decide +kernel
theorem dX1_choose_41 : decode cX1_choose 41 = .ok (.aload_n 0, 1) := by decide +kernel
theorem dX1_choose_42 : decode cX1_choose 42 = .ok (.iload_n 3, 1) := by decide +kernel
theorem dX1_choose_43 : decode cX1_choose 43 = .ok (.iload_n 1, 1) := by decide +kernel
theorem dX1_choose_44 : decode cX1_choose 44 = .ok (.iload 4, 2) := by decide +kernel
theorem dX1_choose_46 : decode cX1_choose 46 = .ok (.isub, 1) := by decide +kernel
theorem dX1_choose_47 : decode cX1_choose 47 = .ok (.invokevirtual 51, 3) := by decide +kernel
theorem dX1_choose_50 : decode cX1_choose 50 = .ok (.iastore, 1) := by decide +kernel
theorem dX1_choose_51 : decode cX1_choose 51 = .ok (.aload_n 0, 1) := by decide +kernel
theorem dX1_choose_52 : decode cX1_choose 52 = .ok (.getfield 18, 3) := by decide +kernel
theorem dX1_choose_55 : decode cX1_choose 55 = .ok (.iload_n 3, 1) := by decide +kernel
theorem dX1_choose_56 : decode cX1_choose 56 = .ok (.iaload, 1) := by decide +kernel
theorem dX1_choose_57 : decode cX1_choose 57 = .ok (.iconst (-1), 1) := by decide +kernel
theorem dX1_choose_58 : decode cX1_choose 58 = .ok (.if_icmp .eq 11, 3) := by decide +kernel
theorem dX1_choose_61 : decode cX1_choose 61 = .ok (.iload_n 1, 1) := by decide +kernel
theorem dX1_choose_62 : decode cX1_choose 62 = .ok (.iload 4, 2) := by decide +kernel
theorem dX1_choose_64 : decode cX1_choose 64 = .ok (.isub, 1) := by decide +kernel
theorem dX1_choose_65 : decode cX1_choose 65 = .ok (.istore_n 1, 1) := by decide +kernel
theorem dX1_choose_66 : decode cX1_choose 66 = .ok (.iinc 2 1, 3) := by decide +kernel
theorem dX1_choose_69 : decode cX1_choose 69 = .ok (.iinc 3 1, 3) := by decide +kernel
theorem dX1_choose_72 : decode cX1_choose 72 = .ok (.goto (-62), 3) := by decide +kernel
theorem dX1_choose_75 : decode cX1_choose 75 = .ok (.iload_n 2, 1) := by decide +kernel
theorem dX1_choose_76 : decode cX1_choose 76 = .ok (.ireturn, 1) := by decide +kernel
theorem dX1_firstHandFor_0 : decode cX1_firstHandFor 0 = .ok (.iload_n 1, 1) := by decide +kernel
theorem dX1_firstHandFor_1 : decode cX1_firstHandFor 1 = .ok (.ifCond .lt 9, 3) := by decide +kernel
theorem dX1_firstHandFor_4 : decode cX1_firstHandFor 4 = .ok (.iload_n 1, 1) := by decide +kernel
theorem dX1_firstHandFor_5 : decode cX1_firstHandFor 5 = .ok (.bipush 7, 2) := by decide +kernel
theorem dX1_firstHandFor_7 : decode cX1_firstHandFor 7 = .ok (.if_icmp .lt 5, 3) := by decide +kernel
theorem dX1_firstHandFor_10 : decode cX1_firstHandFor 10 = .ok (.iconst (-1), 1) := by decide +kernel
theorem dX1_firstHandFor_11 : decode cX1_firstHandFor 11 = .ok (.ireturn, 1) := by decide +kernel
theorem dX1_firstHandFor_12 : decode cX1_firstHandFor 12 = .ok (.iconst 0, 1) := by decide +kernel
theorem dX1_firstHandFor_13 : decode cX1_firstHandFor 13 = .ok (.istore_n 3, 1) := by decide +kernel
theorem dX1_firstHandFor_14 : decode cX1_firstHandFor 14 = .ok (.iload_n 3, 1) := by decide +kernel
theorem dX1_firstHandFor_15 : decode cX1_firstHandFor 15 = .ok (.aload_n 0, 1) := by decide +kernel
theorem dX1_firstHandFor_16 : decode cX1_firstHandFor 16 = .ok (.getfield 41, 3) := by decide +kernel
theorem dX1_firstHandFor_19 : decode cX1_firstHandFor 19 = .ok (.if_icmp .ge 89, 3) := by decide +kernel
theorem dX1_firstHandFor_22 : decode cX1_firstHandFor 22 = .ok (.iload_n 3, 1) := by decide +kernel
theorem dX1_firstHandFor_23 : decode cX1_firstHandFor 23 = .ok (.bipush 6, 2) := by decide +kernel
theorem dX1_firstHandFor_25 : decode cX1_firstHandFor 25 = .ok (.if_icmp .ge 83, 3) := by decide +kernel
theorem dX1_firstHandFor_28 : decode cX1_firstHandFor 28 = .ok (.aload_n 0, 1) := by decide +kernel
theorem dX1_firstHandFor_29 : decode cX1_firstHandFor 29 = .ok (.getfield 27, 3) := by decide +kernel
theorem dX1_firstHandFor_32 : decode cX1_firstHandFor 32 = .ok (.iload_n 3, 1) := by decide +kernel
theorem dX1_firstHandFor_33 : decode cX1_firstHandFor 33 = .ok (.iaload, 1) := by decide +kernel
theorem dX1_firstHandFor_34 : decode cX1_firstHandFor 34 = .ok (.iload_n 1, 1) := by decide +kernel
theorem dX1_firstHandFor_35 : decode cX1_firstHandFor 35 = .ok (.ishr, 1) := by decide +kernel
theorem dX1_firstHandFor_36 : decode cX1_firstHandFor 36 = .ok (.iconst 1, 1) := by decide +kernel
theorem dX1_firstHandFor_37 : decode cX1_firstHandFor 37 = .ok (.iand, 1) := by decide +kernel
theorem dX1_firstHandFor_38 : decode cX1_firstHandFor 38 = .ok (.ifCond .eq 64, 3) := by decide +kernel
theorem dX1_firstHandFor_41 : decode cX1_firstHandFor 41 = .ok (.aload_n 0, 1) := by decide +kernel
theorem dX1_firstHandFor_42 : decode cX1_firstHandFor 42 = .ok (.getfield 15, 3) := by decide +kernel
theorem dX1_firstHandFor_45 : decode cX1_firstHandFor 45 = .ok (.iload_n 1, 1) := by decide +kernel
theorem dX1_firstHandFor_46 : decode cX1_firstHandFor 46 = .ok (.iaload, 1) := by decide +kernel
theorem dX1_firstHandFor_47 : decode cX1_firstHandFor 47 = .ok (.aload_n 0, 1) := by decide +kernel
theorem dX1_firstHandFor_48 : decode cX1_firstHandFor 48 = .ok (.getfield 24, 3) := by decide +kernel
theorem dX1_firstHandFor_51 : decode cX1_firstHandFor 51 = .ok (.iload_n 3, 1) := by decide +kernel
theorem dX1_firstHandFor_52 : decode cX1_firstHandFor 52 = .ok (.iaload, 1) := by decide +kernel
theorem dX1_firstHandFor_53 : decode cX1_firstHandFor 53 = .ok (.if_icmp .le 6, 3) := by decide +kernel
theorem dX1_firstHandFor_56 : decode cX1_firstHandFor 56 = .ok (.goto 46, 3) := by decide +kernel
theorem dX1_firstHandFor_59 : decode cX1_firstHandFor 59 = .ok (.aload_n 0, 1) := by decide +kernel
theorem dX1_firstHandFor_60 : decode cX1_firstHandFor 60 = .ok (.getfield 24, 3) := by decide +kernel
theorem dX1_firstHandFor_63 : decode cX1_firstHandFor 63 = .ok (.iload_n 3, 1) := by decide +kernel
theorem dX1_firstHandFor_64 : decode cX1_firstHandFor 64 = .ok (.dup2, 1) := by decide +kernel
theorem dX1_firstHandFor_65 : decode cX1_firstHandFor 65 = .ok (.iaload, 1) := by decide +kernel
theorem dX1_firstHandFor_66 : decode cX1_firstHandFor 66 = .ok (.aload_n 0, 1) := by decide +kernel
theorem dX1_firstHandFor_67 : decode cX1_firstHandFor 67 = .ok (.getfield 15, 3) := by decide +kernel
theorem dX1_firstHandFor_70 : decode cX1_firstHandFor 70 = .ok (.iload_n 1, 1) := by decide +kernel
theorem dX1_firstHandFor_71 : decode cX1_firstHandFor 71 = .ok (.iaload, 1) := by decide +kernel
theorem dX1_firstHandFor_72 : decode cX1_firstHandFor 72 = .ok (.isub, 1) := by decide +kernel
theorem dX1_firstHandFor_73 : decode cX1_firstHandFor 73 = .ok (.iastore, 1) := by decide +kernel
theorem dX1_firstHandFor_74 : decode cX1_firstHandFor 74 = .ok (.aload_n 0, 1) := by decide +kernel
theorem dX1_firstHandFor_75 : decode cX1_firstHandFor 75 = .ok (.iload_n 1, 1) := by decide +kernel
theorem dX1_firstHandFor_76 : decode cX1_firstHandFor 76 = .ok (.iconst 1, 1) := by decide +kernel
theorem dX1_firstHandFor_77 : decode cX1_firstHandFor 77 = .ok (.iadd, 1) := by decide +kernel
theorem dX1_firstHandFor_78 : decode cX1_firstHandFor 78 = .ok (.invokevirtual 48, 3) := by decide +kernel
theorem dX1_firstHandFor_81 : decode cX1_firstHandFor 81 = .ok (.iload_n 2, 1) := by decide +kernel
theorem dX1_firstHandFor_82 : decode cX1_firstHandFor 82 = .ok (.if_icmp .ne 5, 3) := by decide +kernel
theorem dX1_firstHandFor_85 : decode cX1_firstHandFor 85 = .ok (.iload_n 3, 1) := by decide +kernel
theorem dX1_firstHandFor_86 : decode cX1_firstHandFor 86 = .ok (.ireturn, 1) := by decide +kernel
theorem dX1_firstHandFor_87 : decode cX1_firstHandFor 87 = .ok (.aload_n 0, 1) := by decide +kernel
theorem dX1_firstHandFor_88 : decode cX1_firstHandFor 88 = .ok (.getfield 24, 3) := by decide +kernel
theorem dX1_firstHandFor_91 : decode cX1_firstHandFor 91 = .ok (.iload_n 3, 1) := by decide +kernel
theorem dX1_firstHandFor_92 : decode cX1_firstHandFor 92 = .ok (.dup2, 1) := by decide +kernel
theorem dX1_firstHandFor_93 : decode cX1_firstHandFor 93 = .ok (.iaload, 1) := by decide +kernel
theorem dX1_firstHandFor_94 : decode cX1_firstHandFor 94 = .ok (.aload_n 0, 1) := by decide +kernel
theorem dX1_firstHandFor_95 : decode cX1_firstHandFor 95 = .ok (.getfield 15, 3) := by decide +kernel
theorem dX1_firstHandFor_98 : decode cX1_firstHandFor 98 = .ok (.iload_n 1, 1) := by decide +kernel
theorem dX1_firstHandFor_99 : decode cX1_firstHandFor 99 = .ok (.iaload, 1) := by decide +kernel
theorem dX1_firstHandFor_100 : decode cX1_firstHandFor 100 = .ok (.iadd, 1) := by decide +kernel
theorem dX1_firstHandFor_101 : decode cX1_firstHandFor 101 = .ok (.iastore, 1) := by decide +kernel
theorem dX1_firstHandFor_102 : decode cX1_firstHandFor 102 = .ok (.iinc 3 1, 3) := by decide +kernel
theorem dX1_firstHandFor_105 : decode cX1_firstHandFor 105 = .ok (.goto (-91), 3) := by decide +kernel
theorem dX1_firstHandFor_108 : decode cX1_firstHandFor 108 = .ok (.iconst (-1), 1) := by decide +kernel
theorem dX1_firstHandFor_109 : decode cX1_firstHandFor 109 = .ok (.ireturn, 1) := by decide +kernel
theorem dX1_bestFrom_0 : decode cX1_bestFrom 0 = .ok (.iconst 0, 1) := by decide +kernel
theorem dX1_bestFrom_1 : decode cX1_bestFrom 1 = .ok (.bipush 7, 2) := by decide +kernel
theorem dX1_bestFrom_3 : decode cX1_bestFrom 3 = .ok (.aload_n 0, 1) := by decide +kernel
theorem dX1_bestFrom_4 : decode cX1_bestFrom 4 = .ok (.getfield 37, 3) := by decide +kernel
theorem dX1_bestFrom_7 : decode cX1_bestFrom 7 = .ok (.invokestatic 55, 3) := by decide +kernel
theorem dX1_bestFrom_10 : decode cX1_bestFrom 10 = .ok (.iload_n 1, 1) := by decide +kernel
theorem dX1_bestFrom_11 : decode cX1_bestFrom 11 = .ok (.isub, 1) := by decide +kernel
theorem dX1_bestFrom_12 : decode cX1_bestFrom 12 = .ok (.invokestatic 60, 3) := by decide +kernel
theorem dX1_bestFrom_15 : decode cX1_bestFrom 15 = .ok (.istore_n 2, 1) := by decide +kernel
theorem dX1_bestFrom_16 : decode cX1_bestFrom 16 = .ok (.sipush 128, 3) := by decide +kernel
theorem dX1_bestFrom_19 : decode cX1_bestFrom 19 = .ok (.iconst 1, 1) := by decide +kernel
theorem dX1_bestFrom_20 : decode cX1_bestFrom 20 = .ok (.iload_n 2, 1) := by decide +kernel
theorem dX1_bestFrom_21 : decode cX1_bestFrom 21 = .ok (.ishl, 1) := by decide +kernel
theorem dX1_bestFrom_22 : decode cX1_bestFrom 22 = .ok (.invokestatic 55, 3) := by decide +kernel
theorem dX1_bestFrom_25 : decode cX1_bestFrom 25 = .ok (.istore_n 3, 1) := by decide +kernel
theorem dX1_bestFrom_26 : decode cX1_bestFrom 26 = .ok (.aload_n 0, 1) := by decide +kernel
theorem dX1_bestFrom_27 : decode cX1_bestFrom 27 = .ok (.iload_n 1, 1) := by decide +kernel
theorem dX1_bestFrom_28 : decode cX1_bestFrom 28 = .ok (.iload_n 3, 1) := by decide +kernel
theorem dX1_bestFrom_29 : decode cX1_bestFrom 29 = .ok (.invokevirtual 63, 3) := by decide +kernel
theorem dX1_bestFrom_32 : decode cX1_bestFrom 32 = .ok (.iconst 0, 1) := by decide +kernel
theorem dX1_bestFrom_33 : decode cX1_bestFrom 33 = .ok (.istore 4, 2) := by decide +kernel
theorem dX1_bestFrom_35 : decode cX1_bestFrom 35 = .ok (.iload 4, 2) := by decide +kernel
theorem dX1_bestFrom_37 : decode cX1_bestFrom 37 = .ok (.sipush 128, 3) := by decide +kernel
theorem dX1_bestFrom_40 : decode cX1_bestFrom 40 = .ok (.if_icmp .ge 26, 3) := by decide +kernel
theorem dX1_bestFrom_43 : decode cX1_bestFrom 43 = .ok (.aload_n 0, 1) := by decide +kernel
theorem dX1_bestFrom_44 : decode cX1_bestFrom 44 = .ok (.getfield 33, 3) := by decide +kernel
theorem dX1_bestFrom_47 : decode cX1_bestFrom 47 = .ok (.iload 4, 2) := by decide +kernel
theorem dX1_bestFrom_49 : decode cX1_bestFrom 49 = .ok (.iload 4, 2) := by decide +kernel
theorem dX1_bestFrom_51 : decode cX1_bestFrom 51 = .ok (.ifCond .ne 7, 3) := by decide +kernel
theorem dX1_bestFrom_54 : decode cX1_bestFrom 54 = .ok (.iconst 1, 1) := by decide +kernel
theorem dX1_bestFrom_55 : decode cX1_bestFrom 55 = .ok (.goto 4, 3) := by decide +kernel
theorem dX1_bestFrom_58 : decode cX1_bestFrom 58 = .ok (.iconst 0, 1) := by decide +kernel
theorem dX1_bestFrom_59 : decode cX1_bestFrom 59 = .ok (.bastore, 1) := by decide +kernel
theorem dX1_bestFrom_60 : decode cX1_bestFrom 60 = .ok (.iinc 4 1, 3) := by decide +kernel
theorem dX1_bestFrom_63 : decode cX1_bestFrom 63 = .ok (.goto (-28), 3) := by decide +kernel
theorem dX1_bestFrom_66 : decode cX1_bestFrom 66 = .ok (.iconst 0, 1) := by decide +kernel
theorem dX1_bestFrom_67 : decode cX1_bestFrom 67 = .ok (.istore 4, 2) := by decide +kernel
theorem dX1_bestFrom_69 : decode cX1_bestFrom 69 = .ok (.iload 4, 2) := by decide +kernel
theorem dX1_bestFrom_71 : decode cX1_bestFrom 71 = .ok (.aload_n 0, 1) := by decide +kernel
theorem dX1_bestFrom_72 : decode cX1_bestFrom 72 = .ok (.getfield 41, 3) := by decide +kernel
theorem dX1_bestFrom_75 : decode cX1_bestFrom 75 = .ok (.if_icmp .ge 37, 3) := by decide +kernel
theorem dX1_bestFrom_78 : decode cX1_bestFrom 78 = .ok (.iload 4, 2) := by decide +kernel
theorem dX1_bestFrom_80 : decode cX1_bestFrom 80 = .ok (.bipush 6, 2) := by decide +kernel
theorem dX1_bestFrom_82 : decode cX1_bestFrom 82 = .ok (.if_icmp .ge 30, 3) := by decide +kernel
theorem dX1_bestFrom_85 : decode cX1_bestFrom 85 = .ok (.aload_n 0, 1) := by decide +kernel
theorem dX1_bestFrom_86 : decode cX1_bestFrom 86 = .ok (.aload_n 0, 1) := by decide +kernel
theorem dX1_bestFrom_87 : decode cX1_bestFrom 87 = .ok (.getfield 27, 3) := by decide +kernel
theorem dX1_bestFrom_90 : decode cX1_bestFrom 90 = .ok (.iload 4, 2) := by decide +kernel
theorem dX1_bestFrom_92 : decode cX1_bestFrom 92 = .ok (.iaload, 1) := by decide +kernel
theorem dX1_bestFrom_93 : decode cX1_bestFrom 93 = .ok (.iload_n 1, 1) := by decide +kernel
theorem dX1_bestFrom_94 : decode cX1_bestFrom 94 = .ok (.ishr, 1) := by decide +kernel
theorem dX1_bestFrom_95 : decode cX1_bestFrom 95 = .ok (.aload_n 0, 1) := by decide +kernel
theorem dX1_bestFrom_96 : decode cX1_bestFrom 96 = .ok (.getfield 24, 3) := by decide +kernel
theorem dX1_bestFrom_99 : decode cX1_bestFrom 99 = .ok (.iload 4, 2) := by decide +kernel
theorem dX1_bestFrom_101 : decode cX1_bestFrom 101 = .ok (.iaload, 1) := by decide +kernel
theorem dX1_bestFrom_102 : decode cX1_bestFrom 102 = .ok (.iload_n 3, 1) := by decide +kernel
theorem dX1_bestFrom_103 : decode cX1_bestFrom 103 = .ok (.invokevirtual 67, 3) := by decide +kernel
theorem dX1_bestFrom_106 : decode cX1_bestFrom 106 = .ok (.iinc 4 1, 3) := by decide +kernel
theorem dX1_bestFrom_109 : decode cX1_bestFrom 109 = .ok (.goto (-40), 3) := by decide +kernel
theorem dX1_bestFrom_112 : decode cX1_bestFrom 112 = .ok (.iconst 0, 1) := by decide +kernel
theorem dX1_bestFrom_113 : decode cX1_bestFrom 113 = .ok (.istore 4, 2) := by decide +kernel
theorem dX1_bestFrom_115 : decode cX1_bestFrom 115 = .ok (.iconst 0, 1) := by decide +kernel
theorem dX1_bestFrom_116 : decode cX1_bestFrom 116 = .ok (.istore 5, 2) := by decide +kernel
theorem dX1_bestFrom_118 : decode cX1_bestFrom 118 = .ok (.iload 5, 2) := by decide +kernel
theorem dX1_bestFrom_120 : decode cX1_bestFrom 120 = .ok (.iload_n 3, 1) := by decide +kernel
theorem dX1_bestFrom_121 : decode cX1_bestFrom 121 = .ok (.if_icmp .ge 51, 3) := by decide +kernel
theorem dX1_bestFrom_124 : decode cX1_bestFrom 124 = .ok (.iload 5, 2) := by decide +kernel
theorem dX1_bestFrom_126 : decode cX1_bestFrom 126 = .ok (.sipush 128, 3) := by decide +kernel
theorem dX1_bestFrom_129 : decode cX1_bestFrom 129 = .ok (.if_icmp .ge 43, 3) := by decide +kernel
theorem dX1_bestFrom_132 : decode cX1_bestFrom 132 = .ok (.aload_n 0, 1) := by decide +kernel
theorem dX1_bestFrom_133 : decode cX1_bestFrom 133 = .ok (.getfield 33, 3) := by decide +kernel
theorem dX1_bestFrom_136 : decode cX1_bestFrom 136 = .ok (.iload 5, 2) := by decide +kernel
theorem dX1_bestFrom_138 : decode cX1_bestFrom 138 = .ok (.baload, 1) := by decide +kernel
theorem dX1_bestFrom_139 : decode cX1_bestFrom 139 = .ok (.ifCond .eq 27, 3) := by decide +kernel
theorem dX1_bestFrom_142 : decode cX1_bestFrom 142 = .ok (.iload 4, 2) := by decide +kernel
theorem dX1_bestFrom_144 : decode cX1_bestFrom 144 = .ok (.sipush 10000, 3) := by decide +kernel
theorem dX1_bestFrom_147 : decode cX1_bestFrom 147 = .ok (.iload 5, 2) := by decide +kernel
theorem dX1_bestFrom_149 : decode cX1_bestFrom 149 = .ok (.invokestatic 71, 3) := by decide +kernel
theorem dX1_bestFrom_152 : decode cX1_bestFrom 152 = .ok (.imul, 1) := by decide +kernel
theorem dX1_bestFrom_153 : decode cX1_bestFrom 153 = .ok (.aload_n 0, 1) := by decide +kernel
theorem dX1_bestFrom_154 : decode cX1_bestFrom 154 = .ok (.getfield 30, 3) := by decide +kernel
theorem dX1_bestFrom_157 : decode cX1_bestFrom 157 = .ok (.iload 5, 2) := by decide +kernel
theorem dX1_bestFrom_159 : decode cX1_bestFrom 159 = .ok (.iaload, 1) := by decide +kernel
theorem dX1_bestFrom_160 : decode cX1_bestFrom 160 = .ok (.isub, 1) := by decide +kernel
theorem dX1_bestFrom_161 : decode cX1_bestFrom 161 = .ok (.invokestatic 60, 3) := by decide +kernel
theorem dX1_bestFrom_164 : decode cX1_bestFrom 164 = .ok (.istore 4, 2) := by decide +kernel
theorem dX1_bestFrom_166 : decode cX1_bestFrom 166 = .ok (.iinc 5 1, 3) := by decide +kernel
theorem dX1_bestFrom_169 : decode cX1_bestFrom 169 = .ok (.goto (-51), 3) := by decide +kernel
theorem dX1_bestFrom_172 : decode cX1_bestFrom 172 = .ok (.iload 4, 2) := by decide +kernel
theorem dX1_bestFrom_174 : decode cX1_bestFrom 174 = .ok (.ireturn, 1) := by decide +kernel
theorem dX1_sumLacks_0 : decode cX1_sumLacks 0 = .ok (.aload_n 0, 1) := by decide +kernel
theorem dX1_sumLacks_1 : decode cX1_sumLacks 1 = .ok (.getfield 30, 3) := by decide +kernel
theorem dX1_sumLacks_4 : decode cX1_sumLacks 4 = .ok (.iconst 0, 1) := by decide +kernel
theorem dX1_sumLacks_5 : decode cX1_sumLacks 5 = .ok (.iconst 0, 1) := by decide +kernel
theorem dX1_sumLacks_6 : decode cX1_sumLacks 6 = .ok (.iastore, 1) := by decide +kernel
theorem dX1_sumLacks_7 : decode cX1_sumLacks 7 = .ok (.iconst 1, 1) := by decide +kernel
theorem dX1_sumLacks_8 : decode cX1_sumLacks 8 = .ok (.istore_n 3, 1) := by decide +kernel
theorem dX1_sumLacks_9 : decode cX1_sumLacks 9 = .ok (.iload_n 3, 1) := by decide +kernel
theorem dX1_sumLacks_10 : decode cX1_sumLacks 10 = .ok (.iload_n 2, 1) := by decide +kernel
theorem dX1_sumLacks_11 : decode cX1_sumLacks 11 = .ok (.if_icmp .ge 64, 3) := by decide +kernel
theorem dX1_sumLacks_14 : decode cX1_sumLacks 14 = .ok (.iload_n 3, 1) := by decide +kernel
theorem dX1_sumLacks_15 : decode cX1_sumLacks 15 = .ok (.sipush 128, 3) := by decide +kernel
theorem dX1_sumLacks_18 : decode cX1_sumLacks 18 = .ok (.if_icmp .ge 57, 3) := by decide +kernel
theorem dX1_sumLacks_21 : decode cX1_sumLacks 21 = .ok (.iload_n 1, 1) := by decide +kernel
theorem dX1_sumLacks_22 : decode cX1_sumLacks 22 = .ok (.iload_n 3, 1) := by decide +kernel
theorem dX1_sumLacks_23 : decode cX1_sumLacks 23 = .ok (.invokestatic 76, 3) := by decide +kernel
theorem dX1_sumLacks_26 : decode cX1_sumLacks 26 = .ok (.iadd, 1) := by decide +kernel
theorem dX1_sumLacks_27 : decode cX1_sumLacks 27 = .ok (.istore 4, 2) := by decide +kernel
theorem dX1_sumLacks_29 : decode cX1_sumLacks 29 = .ok (.aload_n 0, 1) := by decide +kernel
theorem dX1_sumLacks_30 : decode cX1_sumLacks 30 = .ok (.getfield 30, 3) := by decide +kernel
theorem dX1_sumLacks_33 : decode cX1_sumLacks 33 = .ok (.iload_n 3, 1) := by decide +kernel
theorem dX1_sumLacks_34 : decode cX1_sumLacks 34 = .ok (.aload_n 0, 1) := by decide +kernel
theorem dX1_sumLacks_35 : decode cX1_sumLacks 35 = .ok (.getfield 30, 3) := by decide +kernel
theorem dX1_sumLacks_38 : decode cX1_sumLacks 38 = .ok (.iload_n 3, 1) := by decide +kernel
theorem dX1_sumLacks_39 : decode cX1_sumLacks 39 = .ok (.iload_n 3, 1) := by decide +kernel
theorem dX1_sumLacks_40 : decode cX1_sumLacks 40 = .ok (.iconst 1, 1) := by decide +kernel
theorem dX1_sumLacks_41 : decode cX1_sumLacks 41 = .ok (.isub, 1) := by decide +kernel
theorem dX1_sumLacks_42 : decode cX1_sumLacks 42 = .ok (.iand, 1) := by decide +kernel
theorem dX1_sumLacks_43 : decode cX1_sumLacks 43 = .ok (.iaload, 1) := by decide +kernel
theorem dX1_sumLacks_44 : decode cX1_sumLacks 44 = .ok (.iload 4, 2) := by decide +kernel
theorem dX1_sumLacks_46 : decode cX1_sumLacks 46 = .ok (.ifCond .lt 20, 3) := by decide +kernel
theorem dX1_sumLacks_49 : decode cX1_sumLacks 49 = .ok (.iload 4, 2) := by decide +kernel
theorem dX1_sumLacks_51 : decode cX1_sumLacks 51 = .ok (.bipush 7, 2) := by decide +kernel
theorem dX1_sumLacks_53 : decode cX1_sumLacks 53 = .ok (.if_icmp .ge 13, 3) := by decide +kernel
theorem dX1_sumLacks_56 : decode cX1_sumLacks 56 = .ok (.aload_n 0, 1) := by decide +kernel
theorem dX1_sumLacks_57 : decode cX1_sumLacks 57 = .ok (.getfield 15, 3) := by decide +kernel
theorem dX1_sumLacks_60 : decode cX1_sumLacks 60 = .ok (.iload 4, 2) := by decide +kernel
theorem dX1_sumLacks_62 : decode cX1_sumLacks 62 = .ok (.iaload, 1) := by decide +kernel
theorem dX1_sumLacks_63 : decode cX1_sumLacks 63 = .ok (.goto 4, 3) := by decide +kernel
theorem dX1_sumLacks_66 : decode cX1_sumLacks 66 = .ok (.iconst 0, 1) := by decide +kernel
theorem dX1_sumLacks_67 : decode cX1_sumLacks 67 = .ok (.iadd, 1) := by decide +kernel
theorem dX1_sumLacks_68 : decode cX1_sumLacks 68 = .ok (.iastore, 1) := by decide +kernel
theorem dX1_sumLacks_69 : decode cX1_sumLacks 69 = .ok (.iinc 3 1, 3) := by decide +kernel
theorem dX1_sumLacks_72 : decode cX1_sumLacks 72 = .ok (.goto (-63), 3) := by decide +kernel
theorem dX1_sumLacks_75 : decode cX1_sumLacks 75 = .ok (.return_, 1) := by decide +kernel
theorem dX1_reachWith_0 : decode cX1_reachWith 0 = .ok (.iload_n 3, 1) := by decide +kernel
theorem dX1_reachWith_1 : decode cX1_reachWith 1 = .ok (.sipush 128, 3) := by decide +kernel
theorem dX1_reachWith_4 : decode cX1_reachWith 4 = .ok (.invokestatic 55, 3) := by decide +kernel
theorem dX1_reachWith_7 : decode cX1_reachWith 7 = .ok (.iconst 1, 1) := by decide +kernel
theorem dX1_reachWith_8 : decode cX1_reachWith 8 = .ok (.isub, 1) := by decide +kernel
theorem dX1_reachWith_9 : decode cX1_reachWith 9 = .ok (.istore 4, 2) := by decide +kernel
theorem dX1_reachWith_11 : decode cX1_reachWith 11 = .ok (.iload 4, 2) := by decide +kernel
theorem dX1_reachWith_13 : decode cX1_reachWith 13 = .ok (.ifCond .le 93, 3) := by decide +kernel
theorem dX1_reachWith_16 : decode cX1_reachWith 16 = .ok (.iload 4, 2) := by decide +kernel
theorem dX1_reachWith_18 : decode cX1_reachWith 18 = .ok (.istore 5, 2) := by decide +kernel
theorem dX1_reachWith_20 : decode cX1_reachWith 20 = .ok (.iload 5, 2) := by decide +kernel
theorem dX1_reachWith_22 : decode cX1_reachWith 22 = .ok (.ifCond .le 78, 3) := by decide +kernel
theorem dX1_reachWith_25 : decode cX1_reachWith 25 = .ok (.aload_n 0, 1) := by decide +kernel
theorem dX1_reachWith_26 : decode cX1_reachWith 26 = .ok (.getfield 33, 3) := by decide +kernel
theorem dX1_reachWith_29 : decode cX1_reachWith 29 = .ok (.iload 4, 2) := by decide +kernel
theorem dX1_reachWith_31 : decode cX1_reachWith 31 = .ok (.baload, 1) := by decide +kernel
theorem dX1_reachWith_32 : decode cX1_reachWith 32 = .ok (.ifCond .ne 68, 3) := by decide +kernel
theorem dX1_reachWith_35 : decode cX1_reachWith 35 = .ok (.iload 5, 2) := by decide +kernel
theorem dX1_reachWith_37 : decode cX1_reachWith 37 = .ok (.iload_n 1, 1) := by decide +kernel
theorem dX1_reachWith_38 : decode cX1_reachWith 38 = .ok (.iconst (-1), 1) := by decide +kernel
theorem dX1_reachWith_39 : decode cX1_reachWith 39 = .ok (.ixor, 1) := by decide +kernel
theorem dX1_reachWith_40 : decode cX1_reachWith 40 = .ok (.iand, 1) := by decide +kernel
theorem dX1_reachWith_41 : decode cX1_reachWith 41 = .ok (.ifCond .ne 18, 3) := by decide +kernel
theorem dX1_reachWith_44 : decode cX1_reachWith 44 = .ok (.aload_n 0, 1) := by decide +kernel
theorem dX1_reachWith_45 : decode cX1_reachWith 45 = .ok (.getfield 30, 3) := by decide +kernel
theorem dX1_reachWith_48 : decode cX1_reachWith 48 = .ok (.iload 5, 2) := by decide +kernel
theorem dX1_reachWith_50 : decode cX1_reachWith 50 = .ok (.iaload, 1) := by decide +kernel
theorem dX1_reachWith_51 : decode cX1_reachWith 51 = .ok (.iload_n 2, 1) := by decide +kernel
theorem dX1_reachWith_52 : decode cX1_reachWith 52 = .ok (.if_icmp .gt 7, 3) := by decide +kernel
theorem dX1_reachWith_55 : decode cX1_reachWith 55 = .ok (.iconst 1, 1) := by decide +kernel
theorem dX1_reachWith_56 : decode cX1_reachWith 56 = .ok (.goto 4, 3) := by decide +kernel
theorem dX1_reachWith_59 : decode cX1_reachWith 59 = .ok (.iconst 0, 1) := by decide +kernel
theorem dX1_reachWith_60 : decode cX1_reachWith 60 = .ok (.istore 6, 2) := by decide +kernel
theorem dX1_reachWith_62 : decode cX1_reachWith 62 = .ok (.iload 6, 2) := by decide +kernel
theorem dX1_reachWith_64 : decode cX1_reachWith 64 = .ok (.ifCond .eq 24, 3) := by decide +kernel
theorem dX1_reachWith_67 : decode cX1_reachWith 67 = .ok (.aload_n 0, 1) := by decide +kernel
theorem dX1_reachWith_68 : decode cX1_reachWith 68 = .ok (.getfield 33, 3) := by decide +kernel
theorem dX1_reachWith_71 : decode cX1_reachWith 71 = .ok (.iload 4, 2) := by decide +kernel
theorem dX1_reachWith_73 : decode cX1_reachWith 73 = .ok (.iload 5, 2) := by decide +kernel
theorem dX1_reachWith_75 : decode cX1_reachWith 75 = .ok (.ixor, 1) := by decide +kernel
theorem dX1_reachWith_76 : decode cX1_reachWith 76 = .ok (.baload, 1) := by decide +kernel
theorem dX1_reachWith_77 : decode cX1_reachWith 77 = .ok (.ifCond .eq 11, 3) := by decide +kernel
theorem dX1_reachWith_80 : decode cX1_reachWith 80 = .ok (.aload_n 0, 1) := by decide +kernel
theorem dX1_reachWith_81 : decode cX1_reachWith 81 = .ok (.getfield 33, 3) := by decide +kernel
theorem dX1_reachWith_84 : decode cX1_reachWith 84 = .ok (.iload 4, 2) := by decide +kernel
theorem dX1_reachWith_86 : decode cX1_reachWith 86 = .ok (.iconst 1, 1) := by decide +kernel
theorem dX1_reachWith_87 : decode cX1_reachWith 87 = .ok (.bastore, 1) := by decide +kernel
theorem dX1_reachWith_88 : decode cX1_reachWith 88 = .ok (.iload 5, 2) := by decide +kernel
theorem dX1_reachWith_90 : decode cX1_reachWith 90 = .ok (.iconst 1, 1) := by decide +kernel
theorem dX1_reachWith_91 : decode cX1_reachWith 91 = .ok (.isub, 1) := by decide +kernel
theorem dX1_reachWith_92 : decode cX1_reachWith 92 = .ok (.iload 4, 2) := by decide +kernel
theorem dX1_reachWith_94 : decode cX1_reachWith 94 = .ok (.iand, 1) := by decide +kernel
theorem dX1_reachWith_95 : decode cX1_reachWith 95 = .ok (.istore 5, 2) := by decide +kernel
theorem dX1_reachWith_97 : decode cX1_reachWith 97 = .ok (.goto (-77), 3) := by decide +kernel
theorem dX1_reachWith_100 : decode cX1_reachWith 100 = .ok (.iinc 4 (-1), 3) := by decide +kernel
theorem dX1_reachWith_103 : decode cX1_reachWith 103 = .ok (.goto (-92), 3) := by decide +kernel
theorem dX1_reachWith_106 : decode cX1_reachWith 106 = .ok (.return_, 1) := by decide +kernel
theorem dX2_init_0 : decode cX2_init 0 = .ok (.aload_n 0, 1) := by decide +kernel
theorem dX2_init_1 : decode cX2_init 1 = .ok (.invokespecial 1, 3) := by decide +kernel
theorem dX2_init_4 : decode cX2_init 4 = .ok (.aload_n 0, 1) := by decide +kernel
theorem dX2_init_5 : decode cX2_init 5 = .ok (.iconst 1, 1) := by decide +kernel
theorem dX2_init_6 : decode cX2_init 6 = .ok (.putfield 7, 3) := by decide +kernel
theorem dX2_init_9 : decode cX2_init 9 = .ok (.aload_n 0, 1) := by decide +kernel
theorem dX2_init_10 : decode cX2_init 10 = .ok (.iload_n 1, 1) := by decide +kernel
theorem dX2_init_11 : decode cX2_init 11 = .ok (.putfield 13, 3) := by decide +kernel
theorem dX2_init_14 : decode cX2_init 14 = .ok (.aload_n 0, 1) := by decide +kernel
theorem dX2_init_15 : decode cX2_init 15 = .ok (.iload_n 2, 1) := by decide +kernel
theorem dX2_init_16 : decode cX2_init 16 = .ok (.putfield 17, 3) := by decide +kernel
theorem dX2_init_19 : decode cX2_init 19 = .ok (.aload_n 0, 1) := by decide +kernel
theorem dX2_init_20 : decode cX2_init 20 = .ok (.iload_n 3, 1) := by decide +kernel
theorem dX2_init_21 : decode cX2_init 21 = .ok (.putfield 20, 3) := by decide +kernel
theorem dX2_init_24 : decode cX2_init 24 = .ok (.return_, 1) := by decide +kernel
theorem dX3_init_0 : decode cX3_init 0 = .ok (.aload_n 0, 1) := by decide +kernel
theorem dX3_init_1 : decode cX3_init 1 = .ok (.invokespecial 3, 3) := by decide +kernel
theorem dX3_init_4 : decode cX3_init 4 = .ok (.aload_n 0, 1) := by decide +kernel
theorem dX3_init_5 : decode cX3_init 5 = .ok (.bipush 60, 2) := by decide +kernel
theorem dX3_init_7 : decode cX3_init 7 = .ok (.newarray .int, 2) := by decide +kernel
theorem dX3_init_9 : decode cX3_init 9 = .ok (.putfield 9, 3) := by decide +kernel
theorem dX3_init_12 : decode cX3_init 12 = .ok (.aload_n 0, 1) := by decide +kernel
theorem dX3_init_13 : decode cX3_init 13 = .ok (.bipush 60, 2) := by decide +kernel
theorem dX3_init_15 : decode cX3_init 15 = .ok (.newarray .int, 2) := by decide +kernel
theorem dX3_init_17 : decode cX3_init 17 = .ok (.putfield 15, 3) := by decide +kernel
theorem dX3_init_20 : decode cX3_init 20 = .ok (.aload_n 0, 1) := by decide +kernel
theorem dX3_init_21 : decode cX3_init 21 = .ok (.bipush 60, 2) := by decide +kernel
theorem dX3_init_23 : decode cX3_init 23 = .ok (.newarray .int, 2) := by decide +kernel
theorem dX3_init_25 : decode cX3_init 25 = .ok (.putfield 18, 3) := by decide +kernel
theorem dX3_init_28 : decode cX3_init 28 = .ok (.aload_n 0, 1) := by decide +kernel
theorem dX3_init_29 : decode cX3_init 29 = .ok (.bipush 60, 2) := by decide +kernel
theorem dX3_init_31 : decode cX3_init 31 = .ok (.newarray .int, 2) := by decide +kernel
theorem dX3_init_33 : decode cX3_init 33 = .ok (.putfield 21, 3) := by decide +kernel
theorem dX3_init_36 : decode cX3_init 36 = .ok (.aload_n 0, 1) := by decide +kernel
theorem dX3_init_37 : decode cX3_init 37 = .ok (.bipush 60, 2) := by decide +kernel
theorem dX3_init_39 : decode cX3_init 39 = .ok (.newarray .int, 2) := by decide +kernel
theorem dX3_init_41 : decode cX3_init 41 = .ok (.putfield 24, 3) := by decide +kernel
theorem dX3_init_44 : decode cX3_init 44 = .ok (.return_, 1) := by decide +kernel
theorem dX3_begin_0 : decode cX3_begin 0 = .ok (.aload_n 0, 1) := by decide +kernel
theorem dX3_begin_1 : decode cX3_begin 1 = .ok (.iconst 0, 1) := by decide +kernel
theorem dX3_begin_2 : decode cX3_begin 2 = .ok (.putfield 27, 3) := by decide +kernel
theorem dX3_begin_5 : decode cX3_begin 5 = .ok (.aload_n 0, 1) := by decide +kernel
theorem dX3_begin_6 : decode cX3_begin 6 = .ok (.iconst 0, 1) := by decide +kernel
theorem dX3_begin_7 : decode cX3_begin 7 = .ok (.putfield 31, 3) := by decide +kernel
theorem dX3_begin_10 : decode cX3_begin 10 = .ok (.return_, 1) := by decide +kernel
theorem dX3_add_0 : decode cX3_add 0 = .ok (.aload_n 0, 1) := by decide +kernel
theorem dX3_add_1 : decode cX3_add 1 = .ok (.getfield 27, 3) := by decide +kernel
theorem dX3_add_4 : decode cX3_add 4 = .ok (.ifCond .lt 82, 3) := by decide +kernel
theorem dX3_add_7 : decode cX3_add 7 = .ok (.aload_n 0, 1) := by decide +kernel
theorem dX3_add_8 : decode cX3_add 8 = .ok (.getfield 27, 3) := by decide +kernel
theorem dX3_add_11 : decode cX3_add 11 = .ok (.bipush 60, 2) := by decide +kernel
theorem dX3_add_13 : decode cX3_add 13 = .ok (.if_icmp .ge 73, 3) := by decide +kernel
theorem dX3_add_16 : decode cX3_add 16 = .ok (.aload_n 0, 1) := by decide +kernel
theorem dX3_add_17 : decode cX3_add 17 = .ok (.getfield 9, 3) := by decide +kernel
theorem dX3_add_20 : decode cX3_add 20 = .ok (.aload_n 0, 1) := by decide +kernel
theorem dX3_add_21 : decode cX3_add 21 = .ok (.getfield 27, 3) := by decide +kernel
theorem dX3_add_24 : decode cX3_add 24 = .ok (.iload_n 1, 1) := by decide +kernel
theorem dX3_add_25 : decode cX3_add 25 = .ok (.iastore, 1) := by decide +kernel
theorem dX3_add_26 : decode cX3_add 26 = .ok (.aload_n 0, 1) := by decide +kernel
theorem dX3_add_27 : decode cX3_add 27 = .ok (.getfield 15, 3) := by decide +kernel
theorem dX3_add_30 : decode cX3_add 30 = .ok (.aload_n 0, 1) := by decide +kernel
theorem dX3_add_31 : decode cX3_add 31 = .ok (.getfield 27, 3) := by decide +kernel
theorem dX3_add_34 : decode cX3_add 34 = .ok (.iload_n 2, 1) := by decide +kernel
theorem dX3_add_35 : decode cX3_add 35 = .ok (.iastore, 1) := by decide +kernel
theorem dX3_add_36 : decode cX3_add 36 = .ok (.aload_n 0, 1) := by decide +kernel
theorem dX3_add_37 : decode cX3_add 37 = .ok (.getfield 18, 3) := by decide +kernel
theorem dX3_add_40 : decode cX3_add 40 = .ok (.aload_n 0, 1) := by decide +kernel
theorem dX3_add_41 : decode cX3_add 41 = .ok (.getfield 27, 3) := by decide +kernel
theorem dX3_add_44 : decode cX3_add 44 = .ok (.iload_n 3, 1) := by decide +kernel
theorem dX3_add_45 : decode cX3_add 45 = .ok (.iastore, 1) := by decide +kernel
theorem dX3_add_46 : decode cX3_add 46 = .ok (.aload_n 0, 1) := by decide +kernel
theorem dX3_add_47 : decode cX3_add 47 = .ok (.getfield 21, 3) := by decide +kernel
theorem dX3_add_50 : decode cX3_add 50 = .ok (.aload_n 0, 1) := by decide +kernel
theorem dX3_add_51 : decode cX3_add 51 = .ok (.getfield 27, 3) := by decide +kernel
theorem dX3_add_54 : decode cX3_add 54 = .ok (.iload 4, 2) := by decide +kernel
theorem dX3_add_56 : decode cX3_add 56 = .ok (.iastore, 1) := by decide +kernel
theorem dX3_add_57 : decode cX3_add 57 = .ok (.aload_n 0, 1) := by decide +kernel
theorem dX3_add_58 : decode cX3_add 58 = .ok (.getfield 24, 3) := by decide +kernel
theorem dX3_add_61 : decode cX3_add 61 = .ok (.aload_n 0, 1) := by decide +kernel
theorem dX3_add_62 : decode cX3_add 62 = .ok (.getfield 27, 3) := by decide +kernel
theorem dX3_add_65 : decode cX3_add 65 = .ok (.iload_n 3, 1) := by decide +kernel
theorem dX3_add_66 : decode cX3_add 66 = .ok (.iload 4, 2) := by decide +kernel
theorem dX3_add_68 : decode cX3_add 68 = .ok (.iload_n 2, 1) := by decide +kernel
theorem dX3_add_69 : decode cX3_add 69 = .ok (.invokestatic 34, 3) := by decide +kernel
theorem dX3_add_72 : decode cX3_add 72 = .ok (.invokestatic 40, 3) := by decide +kernel
theorem dX3_add_75 : decode cX3_add 75 = .ok (.iastore, 1) := by decide +kernel
theorem dX3_add_76 : decode cX3_add 76 = .ok (.aload_n 0, 1) := by decide +kernel
theorem dX3_add_77 : decode cX3_add 77 = .ok (.dup, 1) := by decide +kernel
theorem dX3_add_78 : decode cX3_add 78 = .ok (.getfield 27, 3) := by decide +kernel
theorem dX3_add_81 : decode cX3_add 81 = .ok (.iconst 1, 1) := by decide +kernel
theorem dX3_add_82 : decode cX3_add 82 = .ok (.iadd, 1) := by decide +kernel
theorem dX3_add_83 : decode cX3_add 83 = .ok (.putfield 27, 3) := by decide +kernel
theorem dX3_add_86 : decode cX3_add 86 = .ok (.return_, 1) := by decide +kernel
theorem dX3_fitTo_0 : decode cX3_fitTo 0 = .ok (.aload_n 0, 1) := by decide +kernel
theorem dX3_fitTo_1 : decode cX3_fitTo 1 = .ok (.getfield 31, 3) := by decide +kernel
theorem dX3_fitTo_4 : decode cX3_fitTo 4 = .ok (.aload_n 0, 1) := by decide +kernel
theorem dX3_fitTo_5 : decode cX3_fitTo 5 = .ok (.aload_n 0, 1) := by decide +kernel
theorem dX3_fitTo_6 : decode cX3_fitTo 6 = .ok (.getfield 18, 3) := by decide +kernel
theorem dX3_fitTo_9 : decode cX3_fitTo 9 = .ok (.invokevirtual 43, 3) := by decide +kernel
theorem dX3_fitTo_12 : decode cX3_fitTo 12 = .ok (.iadd, 1) := by decide +kernel
theorem dX3_fitTo_13 : decode cX3_fitTo 13 = .ok (.istore_n 2, 1) := by decide +kernel
theorem dX3_fitTo_14 : decode cX3_fitTo 14 = .ok (.aload_n 0, 1) := by decide +kernel
theorem dX3_fitTo_15 : decode cX3_fitTo 15 = .ok (.getfield 31, 3) := by decide +kernel
theorem dX3_fitTo_18 : decode cX3_fitTo 18 = .ok (.aload_n 0, 1) := by decide +kernel
theorem dX3_fitTo_19 : decode cX3_fitTo 19 = .ok (.aload_n 0, 1) := by decide +kernel
theorem dX3_fitTo_20 : decode cX3_fitTo 20 = .ok (.getfield 21, 3) := by decide +kernel
theorem dX3_fitTo_23 : decode cX3_fitTo 23 = .ok (.invokevirtual 43, 3) := by decide +kernel
theorem dX3_fitTo_26 : decode cX3_fitTo 26 = .ok (.iadd, 1) := by decide +kernel
theorem dX3_fitTo_27 : decode cX3_fitTo 27 = .ok (.istore_n 3, 1) := by decide +kernel
theorem dX3_fitTo_28 : decode cX3_fitTo 28 = .ok (.aload_n 0, 1) := by decide +kernel
theorem dX3_fitTo_29 : decode cX3_fitTo 29 = .ok (.getfield 31, 3) := by decide +kernel
theorem dX3_fitTo_32 : decode cX3_fitTo 32 = .ok (.aload_n 0, 1) := by decide +kernel
theorem dX3_fitTo_33 : decode cX3_fitTo 33 = .ok (.aload_n 0, 1) := by decide +kernel
theorem dX3_fitTo_34 : decode cX3_fitTo 34 = .ok (.getfield 24, 3) := by decide +kernel
theorem dX3_fitTo_37 : decode cX3_fitTo 37 = .ok (.invokevirtual 43, 3) := by decide +kernel
theorem dX3_fitTo_40 : decode cX3_fitTo 40 = .ok (.iadd, 1) := by decide +kernel
theorem dX3_fitTo_41 : decode cX3_fitTo 41 = .ok (.istore 4, 2) := by decide +kernel
theorem dX3_fitTo_43 : decode cX3_fitTo 43 = .ok (.iload_n 1, 1) := by decide +kernel
theorem dX3_fitTo_44 : decode cX3_fitTo 44 = .ok (.ifCond .le 10, 3) := by decide +kernel
theorem dX3_fitTo_47 : decode cX3_fitTo 47 = .ok (.iload 4, 2) := by decide +kernel
theorem dX3_fitTo_49 : decode cX3_fitTo 49 = .ok (.iload_n 1, 1) := by decide +kernel
theorem dX3_fitTo_50 : decode cX3_fitTo 50 = .ok (.irem, 1) := by decide +kernel
theorem dX3_fitTo_51 : decode cX3_fitTo 51 = .ok (.goto 4, 3) := by decide +kernel
theorem dX3_fitTo_54 : decode cX3_fitTo 54 = .ok (.iconst 0, 1) := by decide +kernel
theorem dX3_fitTo_55 : decode cX3_fitTo 55 = .ok (.istore 5, 2) := by decide +kernel
theorem dX3_fitTo_57 : decode cX3_fitTo 57 = .ok (.iload 5, 2) := by decide +kernel
theorem dX3_fitTo_59 : decode cX3_fitTo 59 = .ok (.ifCond .ne 5, 3) := by decide +kernel
theorem dX3_fitTo_62 : decode cX3_fitTo 62 = .ok (.iconst 1, 1) := by decide +kernel
theorem dX3_fitTo_63 : decode cX3_fitTo 63 = .ok (.ireturn, 1) := by decide +kernel
theorem dX3_fitTo_64 : decode cX3_fitTo 64 = .ok (.iload_n 1, 1) := by decide +kernel
theorem dX3_fitTo_65 : decode cX3_fitTo 65 = .ok (.iload 5, 2) := by decide +kernel
theorem dX3_fitTo_67 : decode cX3_fitTo 67 = .ok (.isub, 1) := by decide +kernel
theorem dX3_fitTo_68 : decode cX3_fitTo 68 = .ok (.istore 6, 2) := by decide +kernel
theorem dX3_fitTo_70 : decode cX3_fitTo 70 = .ok (.iload 4, 2) := by decide +kernel
theorem dX3_fitTo_72 : decode cX3_fitTo 72 = .ok (.iload 5, 2) := by decide +kernel
theorem dX3_fitTo_74 : decode cX3_fitTo 74 = .ok (.isub, 1) := by decide +kernel
theorem dX3_fitTo_75 : decode cX3_fitTo 75 = .ok (.iload_n 2, 1) := by decide +kernel
theorem dX3_fitTo_76 : decode cX3_fitTo 76 = .ok (.if_icmp .lt 7, 3) := by decide +kernel
theorem dX3_fitTo_79 : decode cX3_fitTo 79 = .ok (.iconst 1, 1) := by decide +kernel
theorem dX3_fitTo_80 : decode cX3_fitTo 80 = .ok (.goto 4, 3) := by decide +kernel
theorem dX3_fitTo_83 : decode cX3_fitTo 83 = .ok (.iconst 0, 1) := by decide +kernel
theorem dX3_fitTo_84 : decode cX3_fitTo 84 = .ok (.istore 7, 2) := by decide +kernel
theorem dX3_fitTo_86 : decode cX3_fitTo 86 = .ok (.iload 4, 2) := by decide +kernel
theorem dX3_fitTo_88 : decode cX3_fitTo 88 = .ok (.iload 6, 2) := by decide +kernel
theorem dX3_fitTo_90 : decode cX3_fitTo 90 = .ok (.iadd, 1) := by decide +kernel
theorem dX3_fitTo_91 : decode cX3_fitTo 91 = .ok (.iload_n 3, 1) := by decide +kernel
theorem dX3_fitTo_92 : decode cX3_fitTo 92 = .ok (.if_icmp .gt 7, 3) := by decide +kernel
theorem dX3_fitTo_95 : decode cX3_fitTo 95 = .ok (.iconst 1, 1) := by decide +kernel
theorem dX3_fitTo_96 : decode cX3_fitTo 96 = .ok (.goto 4, 3) := by decide +kernel
theorem dX3_fitTo_99 : decode cX3_fitTo 99 = .ok (.iconst 0, 1) := by decide +kernel
theorem dX3_fitTo_100 : decode cX3_fitTo 100 = .ok (.istore 8, 2) := by decide +kernel
theorem dX3_fitTo_102 : decode cX3_fitTo 102 = .ok (.iload 7, 2) := by decide +kernel
theorem dX3_fitTo_104 : decode cX3_fitTo 104 = .ok (.ifCond .eq 28, 3) := by decide +kernel
theorem dX3_fitTo_107 : decode cX3_fitTo 107 = .ok (.iload 8, 2) := by decide +kernel
theorem dX3_fitTo_109 : decode cX3_fitTo 109 = .ok (.ifCond .eq 10, 3) := by decide +kernel
theorem dX3_fitTo_112 : decode cX3_fitTo 112 = .ok (.iload 5, 2) := by decide +kernel
theorem dX3_fitTo_114 : decode cX3_fitTo 114 = .ok (.iload 6, 2) := by decide +kernel
theorem dX3_fitTo_116 : decode cX3_fitTo 116 = .ok (.if_icmp .gt 16, 3) := by decide +kernel
theorem dX3_fitTo_119 : decode cX3_fitTo 119 = .ok (.aload_n 0, 1) := by decide +kernel
theorem dX3_fitTo_120 : decode cX3_fitTo 120 = .ok (.aload_n 0, 1) := by decide +kernel
theorem dX3_fitTo_121 : decode cX3_fitTo 121 = .ok (.getfield 18, 3) := by decide +kernel
theorem dX3_fitTo_124 : decode cX3_fitTo 124 = .ok (.iload 5, 2) := by decide +kernel
theorem dX3_fitTo_126 : decode cX3_fitTo 126 = .ok (.invokevirtual 47, 3) := by decide +kernel
theorem dX3_fitTo_129 : decode cX3_fitTo 129 = .ok (.goto 18, 3) := by decide +kernel
theorem dX3_fitTo_132 : decode cX3_fitTo 132 = .ok (.iload 8, 2) := by decide +kernel
theorem dX3_fitTo_134 : decode cX3_fitTo 134 = .ok (.ifCond .eq 13, 3) := by decide +kernel
theorem dX3_fitTo_137 : decode cX3_fitTo 137 = .ok (.aload_n 0, 1) := by decide +kernel
theorem dX3_fitTo_138 : decode cX3_fitTo 138 = .ok (.aload_n 0, 1) := by decide +kernel
theorem dX3_fitTo_139 : decode cX3_fitTo 139 = .ok (.getfield 21, 3) := by decide +kernel
theorem dX3_fitTo_142 : decode cX3_fitTo 142 = .ok (.iload 6, 2) := by decide +kernel
theorem dX3_fitTo_144 : decode cX3_fitTo 144 = .ok (.invokevirtual 47, 3) := by decide +kernel
theorem dX3_fitTo_147 : decode cX3_fitTo 147 = .ok (.iload 7, 2) := by decide +kernel
theorem dX3_fitTo_149 : decode cX3_fitTo 149 = .ok (.ifCond .ne 8, 3) := by decide +kernel
theorem dX3_fitTo_152 : decode cX3_fitTo 152 = .ok (.iload 8, 2) := by decide +kernel
theorem dX3_fitTo_154 : decode cX3_fitTo 154 = .ok (.ifCond .eq 7, 3) := by decide +kernel
theorem dX3_fitTo_157 : decode cX3_fitTo 157 = .ok (.iconst 1, 1) := by decide +kernel
theorem dX3_fitTo_158 : decode cX3_fitTo 158 = .ok (.goto 4, 3) := by decide +kernel
theorem dX3_fitTo_161 : decode cX3_fitTo 161 = .ok (.iconst 0, 1) := by decide +kernel
theorem dX3_fitTo_162 : decode cX3_fitTo 162 = .ok (.ireturn, 1) := by decide +kernel
theorem dX3_shift_0 : decode cX3_shift 0 = .ok (.iload_n 2, 1) := by decide +kernel
theorem dX3_shift_1 : decode cX3_shift 1 = .ok (.istore_n 3, 1) := by decide +kernel
theorem dX3_shift_2 : decode cX3_shift 2 = .ok (.iconst 0, 1) := by decide +kernel
theorem dX3_shift_3 : decode cX3_shift 3 = .ok (.istore 4, 2) := by decide +kernel
theorem dX3_shift_5 : decode cX3_shift 5 = .ok (.iload 4, 2) := by decide +kernel
theorem dX3_shift_7 : decode cX3_shift 7 = .ok (.aload_n 0, 1) := by decide +kernel
theorem dX3_shift_8 : decode cX3_shift 8 = .ok (.getfield 27, 3) := by decide +kernel
theorem dX3_shift_11 : decode cX3_shift 11 = .ok (.if_icmp .ge 76, 3) := by decide +kernel
theorem dX3_shift_14 : decode cX3_shift 14 = .ok (.iload 4, 2) := by decide +kernel
theorem dX3_shift_16 : decode cX3_shift 16 = .ok (.bipush 60, 2) := by decide +kernel
theorem dX3_shift_18 : decode cX3_shift 18 = .ok (.if_icmp .ge 69, 3) := by decide +kernel
theorem dX3_shift_21 : decode cX3_shift 21 = .ok (.iload 4, 2) := by decide +kernel
theorem dX3_shift_23 : decode cX3_shift 23 = .ok (.aload_n 1, 1) := by decide +kernel
theorem dX3_shift_24 : decode cX3_shift 24 = .ok (.arraylength, 1) := by decide +kernel
theorem dX3_shift_25 : decode cX3_shift 25 = .ok (.if_icmp .ge 62, 3) := by decide +kernel
theorem dX3_shift_28 : decode cX3_shift 28 = .ok (.aload_n 1, 1) := by decide +kernel
theorem dX3_shift_29 : decode cX3_shift 29 = .ok (.iload 4, 2) := by decide +kernel
theorem dX3_shift_31 : decode cX3_shift 31 = .ok (.iaload, 1) := by decide +kernel
theorem dX3_shift_32 : decode cX3_shift 32 = .ok (.aload_n 0, 1) := by decide +kernel
theorem dX3_shift_33 : decode cX3_shift 33 = .ok (.getfield 24, 3) := by decide +kernel
theorem dX3_shift_36 : decode cX3_shift 36 = .ok (.iload 4, 2) := by decide +kernel
theorem dX3_shift_38 : decode cX3_shift 38 = .ok (.iaload, 1) := by decide +kernel
theorem dX3_shift_39 : decode cX3_shift 39 = .ok (.isub, 1) := by decide +kernel
theorem dX3_shift_40 : decode cX3_shift 40 = .ok (.istore 5, 2) := by decide +kernel
theorem dX3_shift_42 : decode cX3_shift 42 = .ok (.iload_n 3, 1) := by decide +kernel
theorem dX3_shift_43 : decode cX3_shift 43 = .ok (.iload 5, 2) := by decide +kernel
theorem dX3_shift_45 : decode cX3_shift 45 = .ok (.invokestatic 51, 3) := by decide +kernel
theorem dX3_shift_48 : decode cX3_shift 48 = .ok (.invokestatic 34, 3) := by decide +kernel
theorem dX3_shift_51 : decode cX3_shift 51 = .ok (.istore 6, 2) := by decide +kernel
theorem dX3_shift_53 : decode cX3_shift 53 = .ok (.aload_n 0, 1) := by decide +kernel
theorem dX3_shift_54 : decode cX3_shift 54 = .ok (.getfield 24, 3) := by decide +kernel
theorem dX3_shift_57 : decode cX3_shift 57 = .ok (.iload 4, 2) := by decide +kernel
theorem dX3_shift_59 : decode cX3_shift 59 = .ok (.dup2, 1) := by decide +kernel
theorem dX3_shift_60 : decode cX3_shift 60 = .ok (.iaload, 1) := by decide +kernel
theorem dX3_shift_61 : decode cX3_shift 61 = .ok (.iload 5, 2) := by decide +kernel
theorem dX3_shift_63 : decode cX3_shift 63 = .ok (.ifCond .ge 9, 3) := by decide +kernel
theorem dX3_shift_66 : decode cX3_shift 66 = .ok (.iload 6, 2) := by decide +kernel
theorem dX3_shift_68 : decode cX3_shift 68 = .ok (.ineg, 1) := by decide +kernel
theorem dX3_shift_69 : decode cX3_shift 69 = .ok (.goto 5, 3) := by decide +kernel
theorem dX3_shift_72 : decode cX3_shift 72 = .ok (.iload 6, 2) := by decide +kernel
theorem dX3_shift_74 : decode cX3_shift 74 = .ok (.iadd, 1) := by decide +kernel
theorem dX3_shift_75 : decode cX3_shift 75 = .ok (.iastore, 1) := by decide +kernel
theorem dX3_shift_76 : decode cX3_shift 76 = .ok (.iload_n 3, 1) := by decide +kernel
theorem dX3_shift_77 : decode cX3_shift 77 = .ok (.iload 6, 2) := by decide +kernel
theorem dX3_shift_79 : decode cX3_shift 79 = .ok (.isub, 1) := by decide +kernel
theorem dX3_shift_80 : decode cX3_shift 80 = .ok (.istore_n 3, 1) := by decide +kernel
theorem dX3_shift_81 : decode cX3_shift 81 = .ok (.iinc 4 1, 3) := by decide +kernel
theorem dX3_shift_84 : decode cX3_shift 84 = .ok (.goto (-79), 3) := by decide +kernel
theorem dX3_shift_87 : decode cX3_shift 87 = .ok (.return_, 1) := by decide +kernel
theorem dX3_sumOf_0 : decode cX3_sumOf 0 = .ok (.iconst 0, 1) := by decide +kernel
theorem dX3_sumOf_1 : decode cX3_sumOf 1 = .ok (.istore_n 2, 1) := by decide +kernel
theorem dX3_sumOf_2 : decode cX3_sumOf 2 = .ok (.iconst 0, 1) := by decide +kernel
theorem dX3_sumOf_3 : decode cX3_sumOf 3 = .ok (.istore_n 3, 1) := by decide +kernel
theorem dX3_sumOf_4 : decode cX3_sumOf 4 = .ok (.iload_n 3, 1) := by decide +kernel
theorem dX3_sumOf_5 : decode cX3_sumOf 5 = .ok (.aload_n 0, 1) := by decide +kernel
theorem dX3_sumOf_6 : decode cX3_sumOf 6 = .ok (.getfield 27, 3) := by decide +kernel
theorem dX3_sumOf_9 : decode cX3_sumOf 9 = .ok (.if_icmp .ge 21, 3) := by decide +kernel
theorem dX3_sumOf_12 : decode cX3_sumOf 12 = .ok (.iload_n 3, 1) := by decide +kernel
theorem dX3_sumOf_13 : decode cX3_sumOf 13 = .ok (.aload_n 1, 1) := by decide +kernel
theorem dX3_sumOf_14 : decode cX3_sumOf 14 = .ok (.arraylength, 1) := by decide +kernel
theorem dX3_sumOf_15 : decode cX3_sumOf 15 = .ok (.if_icmp .ge 15, 3) := by decide +kernel
theorem dX3_sumOf_18 : decode cX3_sumOf 18 = .ok (.iload_n 2, 1) := by decide +kernel
theorem dX3_sumOf_19 : decode cX3_sumOf 19 = .ok (.aload_n 1, 1) := by decide +kernel
theorem dX3_sumOf_20 : decode cX3_sumOf 20 = .ok (.iload_n 3, 1) := by decide +kernel
theorem dX3_sumOf_21 : decode cX3_sumOf 21 = .ok (.iaload, 1) := by decide +kernel
theorem dX3_sumOf_22 : decode cX3_sumOf 22 = .ok (.iadd, 1) := by decide +kernel
theorem dX3_sumOf_23 : decode cX3_sumOf 23 = .ok (.istore_n 2, 1) := by decide +kernel
theorem dX3_sumOf_24 : decode cX3_sumOf 24 = .ok (.iinc 3 1, 3) := by decide +kernel
theorem dX3_sumOf_27 : decode cX3_sumOf 27 = .ok (.goto (-23), 3) := by decide +kernel
theorem dX3_sumOf_30 : decode cX3_sumOf 30 = .ok (.iload_n 2, 1) := by decide +kernel
theorem dX3_sumOf_31 : decode cX3_sumOf 31 = .ok (.ireturn, 1) := by decide +kernel
theorem dX3_differences_0 : decode cX3_differences 0 = .ok (.iconst 0, 1) := by decide +kernel
theorem dX3_differences_1 : decode cX3_differences 1 = .ok (.istore_n 1, 1) := by decide +kernel
theorem dX3_differences_2 : decode cX3_differences 2 = .ok (.iconst 0, 1) := by decide +kernel
theorem dX3_differences_3 : decode cX3_differences 3 = .ok (.istore_n 2, 1) := by decide +kernel
theorem dX3_differences_4 : decode cX3_differences 4 = .ok (.iload_n 2, 1) := by decide +kernel
theorem dX3_differences_5 : decode cX3_differences 5 = .ok (.aload_n 0, 1) := by decide +kernel
theorem dX3_differences_6 : decode cX3_differences 6 = .ok (.getfield 27, 3) := by decide +kernel
theorem dX3_differences_9 : decode cX3_differences 9 = .ok (.if_icmp .ge 34, 3) := by decide +kernel
theorem dX3_differences_12 : decode cX3_differences 12 = .ok (.iload_n 2, 1) := by decide +kernel
theorem dX3_differences_13 : decode cX3_differences 13 = .ok (.bipush 60, 2) := by decide +kernel
theorem dX3_differences_15 : decode cX3_differences 15 = .ok (.if_icmp .ge 28, 3) := by decide +kernel
theorem dX3_differences_18 : decode cX3_differences 18 = .ok (.iload_n 1, 1) := by decide +kernel
theorem dX3_differences_19 : decode cX3_differences 19 = .ok (.aload_n 0, 1) := by decide +kernel
theorem dX3_differences_20 : decode cX3_differences 20 = .ok (.getfield 24, 3) := by decide +kernel
theorem dX3_differences_23 : decode cX3_differences 23 = .ok (.iload_n 2, 1) := by decide +kernel
theorem dX3_differences_24 : decode cX3_differences 24 = .ok (.iaload, 1) := by decide +kernel
theorem dX3_differences_25 : decode cX3_differences 25 = .ok (.aload_n 0, 1) := by decide +kernel
theorem dX3_differences_26 : decode cX3_differences 26 = .ok (.getfield 15, 3) := by decide +kernel
theorem dX3_differences_29 : decode cX3_differences 29 = .ok (.iload_n 2, 1) := by decide +kernel
theorem dX3_differences_30 : decode cX3_differences 30 = .ok (.iaload, 1) := by decide +kernel
theorem dX3_differences_31 : decode cX3_differences 31 = .ok (.isub, 1) := by decide +kernel
theorem dX3_differences_32 : decode cX3_differences 32 = .ok (.invokestatic 51, 3) := by decide +kernel
theorem dX3_differences_35 : decode cX3_differences 35 = .ok (.iadd, 1) := by decide +kernel
theorem dX3_differences_36 : decode cX3_differences 36 = .ok (.istore_n 1, 1) := by decide +kernel
theorem dX3_differences_37 : decode cX3_differences 37 = .ok (.iinc 2 1, 3) := by decide +kernel
theorem dX3_differences_40 : decode cX3_differences 40 = .ok (.goto (-36), 3) := by decide +kernel
theorem dX3_differences_43 : decode cX3_differences 43 = .ok (.iload_n 1, 1) := by decide +kernel
theorem dX3_differences_44 : decode cX3_differences 44 = .ok (.ireturn, 1) := by decide +kernel
theorem dX3_fittedOf_0 : decode cX3_fittedOf 0 = .ok (.iconst 0, 1) := by decide +kernel
theorem dX3_fittedOf_1 : decode cX3_fittedOf 1 = .ok (.istore_n 2, 1) := by decide +kernel
theorem dX3_fittedOf_2 : decode cX3_fittedOf 2 = .ok (.iload_n 2, 1) := by decide +kernel
theorem dX3_fittedOf_3 : decode cX3_fittedOf 3 = .ok (.aload_n 0, 1) := by decide +kernel
theorem dX3_fittedOf_4 : decode cX3_fittedOf 4 = .ok (.getfield 27, 3) := by decide +kernel
theorem dX3_fittedOf_7 : decode cX3_fittedOf 7 = .ok (.if_icmp .ge 32, 3) := by decide +kernel
theorem dX3_fittedOf_10 : decode cX3_fittedOf 10 = .ok (.iload_n 2, 1) := by decide +kernel
theorem dX3_fittedOf_11 : decode cX3_fittedOf 11 = .ok (.bipush 60, 2) := by decide +kernel
theorem dX3_fittedOf_13 : decode cX3_fittedOf 13 = .ok (.if_icmp .ge 26, 3) := by decide +kernel
theorem dX3_fittedOf_16 : decode cX3_fittedOf 16 = .ok (.aload_n 0, 1) := by decide +kernel
theorem dX3_fittedOf_17 : decode cX3_fittedOf 17 = .ok (.getfield 9, 3) := by decide +kernel
theorem dX3_fittedOf_20 : decode cX3_fittedOf 20 = .ok (.iload_n 2, 1) := by decide +kernel
theorem dX3_fittedOf_21 : decode cX3_fittedOf 21 = .ok (.iaload, 1) := by decide +kernel
theorem dX3_fittedOf_22 : decode cX3_fittedOf 22 = .ok (.iload_n 1, 1) := by decide +kernel
theorem dX3_fittedOf_23 : decode cX3_fittedOf 23 = .ok (.if_icmp .ne 10, 3) := by decide +kernel
theorem dX3_fittedOf_26 : decode cX3_fittedOf 26 = .ok (.aload_n 0, 1) := by decide +kernel
theorem dX3_fittedOf_27 : decode cX3_fittedOf 27 = .ok (.getfield 24, 3) := by decide +kernel
theorem dX3_fittedOf_30 : decode cX3_fittedOf 30 = .ok (.iload_n 2, 1) := by decide +kernel
theorem dX3_fittedOf_31 : decode cX3_fittedOf 31 = .ok (.iaload, 1) := by decide +kernel
theorem dX3_fittedOf_32 : decode cX3_fittedOf 32 = .ok (.ireturn, 1) := by decide +kernel
theorem dX3_fittedOf_33 : decode cX3_fittedOf 33 = .ok (.iinc 2 1, 3) := by decide +kernel
theorem dX3_fittedOf_36 : decode cX3_fittedOf 36 = .ok (.goto (-34), 3) := by decide +kernel
theorem dX3_fittedOf_39 : decode cX3_fittedOf 39 = .ok (.iconst (-1), 1) := by decide +kernel
theorem dX3_fittedOf_40 : decode cX3_fittedOf 40 = .ok (.ireturn, 1) := by decide +kernel
theorem dX4_init_0 : decode cX4_init 0 = .ok (.aload_n 0, 1) := by decide +kernel
theorem dX4_init_1 : decode cX4_init 1 = .ok (.invokespecial 3, 3) := by decide +kernel
theorem dX4_init_4 : decode cX4_init 4 = .ok (.aload_n 0, 1) := by decide +kernel
theorem dX4_init_5 : decode cX4_init 5 = .ok (.iconst (-1), 1) := by decide +kernel
theorem dX4_init_6 : decode cX4_init 6 = .ok (.putfield 9, 3) := by decide +kernel
theorem dX4_init_9 : decode cX4_init 9 = .ok (.aload_n 0, 1) := by decide +kernel
theorem dX4_init_10 : decode cX4_init 10 = .ok (.iconst (-1), 1) := by decide +kernel
theorem dX4_init_11 : decode cX4_init 11 = .ok (.putfield 15, 3) := by decide +kernel
theorem dX4_init_14 : decode cX4_init 14 = .ok (.aload_n 0, 1) := by decide +kernel
theorem dX4_init_15 : decode cX4_init 15 = .ok (.iconst (-1), 1) := by decide +kernel
theorem dX4_init_16 : decode cX4_init 16 = .ok (.putfield 18, 3) := by decide +kernel
theorem dX4_init_19 : decode cX4_init 19 = .ok (.aload_n 0, 1) := by decide +kernel
theorem dX4_init_20 : decode cX4_init 20 = .ok (.iconst (-1), 1) := by decide +kernel
theorem dX4_init_21 : decode cX4_init 21 = .ok (.putfield 21, 3) := by decide +kernel
theorem dX4_init_24 : decode cX4_init 24 = .ok (.aload_n 0, 1) := by decide +kernel
theorem dX4_init_25 : decode cX4_init 25 = .ok (.iconst (-1), 1) := by decide +kernel
theorem dX4_init_26 : decode cX4_init 26 = .ok (.putfield 24, 3) := by decide +kernel
theorem dX4_init_29 : decode cX4_init 29 = .ok (.aload_n 0, 1) := by decide +kernel
theorem dX4_init_30 : decode cX4_init 30 = .ok (.iload_n 1, 1) := by decide +kernel
theorem dX4_init_31 : decode cX4_init 31 = .ok (.putfield 27, 3) := by decide +kernel
theorem dX4_init_34 : decode cX4_init 34 = .ok (.aload_n 0, 1) := by decide +kernel
theorem dX4_init_35 : decode cX4_init 35 = .ok (.iload_n 2, 1) := by decide +kernel
theorem dX4_init_36 : decode cX4_init 36 = .ok (.putfield 30, 3) := by decide +kernel
theorem dX4_init_39 : decode cX4_init 39 = .ok (.aload_n 0, 1) := by decide +kernel
theorem dX4_init_40 : decode cX4_init 40 = .ok (.iload_n 3, 1) := by decide +kernel
theorem dX4_init_41 : decode cX4_init 41 = .ok (.putfield 33, 3) := by decide +kernel
theorem dX4_init_44 : decode cX4_init 44 = .ok (.return_, 1) := by decide +kernel
theorem dX5_init_0 : decode cX5_init 0 = .ok (.aload_n 0, 1) := by decide +kernel
theorem dX5_init_1 : decode cX5_init 1 = .ok (.invokespecial 3, 3) := by decide +kernel
theorem dX5_init_4 : decode cX5_init 4 = .ok (.aload_n 0, 1) := by decide +kernel
theorem dX5_init_5 : decode cX5_init 5 = .ok (.bipush 40, 2) := by decide +kernel
theorem dX5_init_7 : decode cX5_init 7 = .ok (.newarray .int, 2) := by decide +kernel
theorem dX5_init_9 : decode cX5_init 9 = .ok (.putfield 11, 3) := by decide +kernel
theorem dX5_init_12 : decode cX5_init 12 = .ok (.aload_n 0, 1) := by decide +kernel
theorem dX5_init_13 : decode cX5_init 13 = .ok (.sipush 600, 3) := by decide +kernel
theorem dX5_init_16 : decode cX5_init 16 = .ok (.newarray .int, 2) := by decide +kernel
theorem dX5_init_18 : decode cX5_init 18 = .ok (.putfield 15, 3) := by decide +kernel
theorem dX5_init_21 : decode cX5_init 21 = .ok (.aload_n 0, 1) := by decide +kernel
theorem dX5_init_22 : decode cX5_init 22 = .ok (.sipush 600, 3) := by decide +kernel
theorem dX5_init_25 : decode cX5_init 25 = .ok (.newarray .int, 2) := by decide +kernel
theorem dX5_init_27 : decode cX5_init 27 = .ok (.putfield 18, 3) := by decide +kernel
theorem dX5_init_30 : decode cX5_init 30 = .ok (.aload_n 0, 1) := by decide +kernel
theorem dX5_init_31 : decode cX5_init 31 = .ok (.sipush 600, 3) := by decide +kernel
theorem dX5_init_34 : decode cX5_init 34 = .ok (.newarray .int, 2) := by decide +kernel
theorem dX5_init_36 : decode cX5_init 36 = .ok (.putfield 21, 3) := by decide +kernel
theorem dX5_init_39 : decode cX5_init 39 = .ok (.aload_n 0, 1) := by decide +kernel
theorem dX5_init_40 : decode cX5_init 40 = .ok (.sipush 600, 3) := by decide +kernel
theorem dX5_init_43 : decode cX5_init 43 = .ok (.newarray .int, 2) := by decide +kernel
theorem dX5_init_45 : decode cX5_init 45 = .ok (.putfield 24, 3) := by decide +kernel
theorem dX5_init_48 : decode cX5_init 48 = .ok (.aload_n 0, 1) := by decide +kernel
theorem dX5_init_49 : decode cX5_init 49 = .ok (.bipush 60, 2) := by decide +kernel
theorem dX5_init_51 : decode cX5_init 51 = .ok (.newarray .int, 2) := by decide +kernel
theorem dX5_init_53 : decode cX5_init 53 = .ok (.putfield 27, 3) := by decide +kernel
theorem dX5_init_56 : decode cX5_init 56 = .ok (.aload_n 0, 1) := by decide +kernel
theorem dX5_init_57 : decode cX5_init 57 = .ok (.bipush 60, 2) := by decide +kernel
theorem dX5_init_59 : decode cX5_init 59 = .ok (.newarray .int, 2) := by decide +kernel
theorem dX5_init_61 : decode cX5_init 61 = .ok (.putfield 30, 3) := by decide +kernel
theorem dX5_init_64 : decode cX5_init 64 = .ok (.aload_n 0, 1) := by decide +kernel
theorem dX5_init_65 : decode cX5_init 65 = .ok (.bipush 60, 2) := by decide +kernel
theorem dX5_init_67 : decode cX5_init 67 = .ok (.newarray .int, 2) := by decide +kernel
theorem dX5_init_69 : decode cX5_init 69 = .ok (.putfield 33, 3) := by decide +kernel
theorem dX5_init_72 : decode cX5_init 72 = .ok (.aload_n 0, 1) := by decide +kernel
theorem dX5_init_73 : decode cX5_init 73 = .ok (.bipush 60, 2) := by decide +kernel
theorem dX5_init_75 : decode cX5_init 75 = .ok (.newarray .int, 2) := by decide +kernel
theorem dX5_init_77 : decode cX5_init 77 = .ok (.putfield 36, 3) := by decide +kernel
theorem dX5_init_80 : decode cX5_init 80 = .ok (.aload_n 0, 1) := by decide +kernel
theorem dX5_init_81 : decode cX5_init 81 = .ok (.bipush 60, 2) := by decide +kernel
theorem dX5_init_83 : decode cX5_init 83 = .ok (.newarray .boolean, 2) := by decide +kernel
theorem dX5_init_85 : decode cX5_init 85 = .ok (.putfield 39, 3) := by decide +kernel
theorem dX5_init_88 : decode cX5_init 88 = .ok (.aload_n 0, 1) := by decide +kernel
theorem dX5_init_89 : decode cX5_init 89 = .ok (.getfield 11, 3) := by decide +kernel
theorem dX5_init_92 : decode cX5_init 92 = .ok (.iconst (-1), 1) := by decide +kernel
theorem dX5_init_93 : decode cX5_init 93 = .ok (.invokestatic 43, 3) := by decide +kernel
theorem dX5_init_96 : decode cX5_init 96 = .ok (.return_, 1) := by decide +kernel
theorem dX5_addFact_0 : decode cX5_addFact 0 = .ok (.iload_n 1, 1) := by decide +kernel
theorem dX5_addFact_1 : decode cX5_addFact 1 = .ok (.ifCond .lt 26, 3) := by decide +kernel
theorem dX5_addFact_4 : decode cX5_addFact 4 = .ok (.iload_n 1, 1) := by decide +kernel
theorem dX5_addFact_5 : decode cX5_addFact 5 = .ok (.bipush 40, 2) := by decide +kernel
theorem dX5_addFact_7 : decode cX5_addFact 7 = .ok (.if_icmp .ge 20, 3) := by decide +kernel
theorem dX5_addFact_10 : decode cX5_addFact 10 = .ok (.aload_n 0, 1) := by decide +kernel
theorem dX5_addFact_11 : decode cX5_addFact 11 = .ok (.getfield 49, 3) := by decide +kernel
theorem dX5_addFact_14 : decode cX5_addFact 14 = .ok (.ifCond .lt 13, 3) := by decide +kernel
theorem dX5_addFact_17 : decode cX5_addFact 17 = .ok (.aload_n 0, 1) := by decide +kernel
theorem dX5_addFact_18 : decode cX5_addFact 18 = .ok (.getfield 49, 3) := by decide +kernel
theorem dX5_addFact_21 : decode cX5_addFact 21 = .ok (.sipush 600, 3) := by decide +kernel
theorem dX5_addFact_24 : decode cX5_addFact 24 = .ok (.if_icmp .lt 5, 3) := by decide +kernel
theorem dX5_addFact_27 : decode cX5_addFact 27 = .ok (.iconst 0, 1) := by decide +kernel
theorem dX5_addFact_28 : decode cX5_addFact 28 = .ok (.ireturn, 1) := by decide +kernel
theorem dX5_addFact_29 : decode cX5_addFact 29 = .ok (.aload_n 0, 1) := by decide +kernel
theorem dX5_addFact_30 : decode cX5_addFact 30 = .ok (.getfield 15, 3) := by decide +kernel
theorem dX5_addFact_33 : decode cX5_addFact 33 = .ok (.aload_n 0, 1) := by decide +kernel
theorem dX5_addFact_34 : decode cX5_addFact 34 = .ok (.getfield 49, 3) := by decide +kernel
theorem dX5_addFact_37 : decode cX5_addFact 37 = .ok (.iload_n 2, 1) := by decide +kernel
theorem dX5_addFact_38 : decode cX5_addFact 38 = .ok (.iastore, 1) := by decide +kernel
theorem dX5_addFact_39 : decode cX5_addFact 39 = .ok (.aload_n 0, 1) := by decide +kernel
theorem dX5_addFact_40 : decode cX5_addFact 40 = .ok (.getfield 18, 3) := by decide +kernel
theorem dX5_addFact_43 : decode cX5_addFact 43 = .ok (.aload_n 0, 1) := by decide +kernel
theorem dX5_addFact_44 : decode cX5_addFact 44 = .ok (.getfield 49, 3) := by decide +kernel
theorem dX5_addFact_47 : decode cX5_addFact 47 = .ok (.iload_n 3, 1) := by decide +kernel
theorem dX5_addFact_48 : decode cX5_addFact 48 = .ok (.iastore, 1) := by decide +kernel
theorem dX5_addFact_49 : decode cX5_addFact 49 = .ok (.aload_n 0, 1) := by decide +kernel
theorem dX5_addFact_50 : decode cX5_addFact 50 = .ok (.getfield 21, 3) := by decide +kernel
theorem dX5_addFact_53 : decode cX5_addFact 53 = .ok (.aload_n 0, 1) := by decide +kernel
theorem dX5_addFact_54 : decode cX5_addFact 54 = .ok (.getfield 49, 3) := by decide +kernel
theorem dX5_addFact_57 : decode cX5_addFact 57 = .ok (.iload 4, 2) := by decide +kernel
theorem dX5_addFact_59 : decode cX5_addFact 59 = .ok (.iastore, 1) := by decide +kernel
theorem dX5_addFact_60 : decode cX5_addFact 60 = .ok (.aload_n 0, 1) := by decide +kernel
theorem dX5_addFact_61 : decode cX5_addFact 61 = .ok (.getfield 24, 3) := by decide +kernel
theorem dX5_addFact_64 : decode cX5_addFact 64 = .ok (.aload_n 0, 1) := by decide +kernel
theorem dX5_addFact_65 : decode cX5_addFact 65 = .ok (.getfield 49, 3) := by decide +kernel
theorem dX5_addFact_68 : decode cX5_addFact 68 = .ok (.aload_n 0, 1) := by decide +kernel
theorem dX5_addFact_69 : decode cX5_addFact 69 = .ok (.getfield 11, 3) := by decide +kernel
theorem dX5_addFact_72 : decode cX5_addFact 72 = .ok (.iload_n 1, 1) := by decide +kernel
theorem dX5_addFact_73 : decode cX5_addFact 73 = .ok (.iaload, 1) := by decide +kernel
theorem dX5_addFact_74 : decode cX5_addFact 74 = .ok (.iastore, 1) := by decide +kernel
theorem dX5_addFact_75 : decode cX5_addFact 75 = .ok (.aload_n 0, 1) := by decide +kernel
theorem dX5_addFact_76 : decode cX5_addFact 76 = .ok (.getfield 11, 3) := by decide +kernel
theorem dX5_addFact_79 : decode cX5_addFact 79 = .ok (.iload_n 1, 1) := by decide +kernel
theorem dX5_addFact_80 : decode cX5_addFact 80 = .ok (.aload_n 0, 1) := by decide +kernel
theorem dX5_addFact_81 : decode cX5_addFact 81 = .ok (.getfield 49, 3) := by decide +kernel
theorem dX5_addFact_84 : decode cX5_addFact 84 = .ok (.iastore, 1) := by decide +kernel
theorem dX5_addFact_85 : decode cX5_addFact 85 = .ok (.aload_n 0, 1) := by decide +kernel
theorem dX5_addFact_86 : decode cX5_addFact 86 = .ok (.dup, 1) := by decide +kernel
theorem dX5_addFact_87 : decode cX5_addFact 87 = .ok (.getfield 49, 3) := by decide +kernel
theorem dX5_addFact_90 : decode cX5_addFact 90 = .ok (.iconst 1, 1) := by decide +kernel
theorem dX5_addFact_91 : decode cX5_addFact 91 = .ok (.iadd, 1) := by decide +kernel
theorem dX5_addFact_92 : decode cX5_addFact 92 = .ok (.putfield 49, 3) := by decide +kernel
theorem dX5_addFact_95 : decode cX5_addFact 95 = .ok (.iconst 1, 1) := by decide +kernel
theorem dX5_addFact_96 : decode cX5_addFact 96 = .ok (.ireturn, 1) := by decide +kernel
theorem dX5_tellOn_0 : decode cX5_tellOn 0 = .ok (.iload_n 1, 1) := by decide +kernel
theorem dX5_tellOn_1 : decode cX5_tellOn 1 = .ok (.ifCond .lt 18, 3) := by decide +kernel
theorem dX5_tellOn_4 : decode cX5_tellOn 4 = .ok (.iload_n 1, 1) := by decide +kernel
theorem dX5_tellOn_5 : decode cX5_tellOn 5 = .ok (.bipush 40, 2) := by decide +kernel
theorem dX5_tellOn_7 : decode cX5_tellOn 7 = .ok (.if_icmp .ge 12, 3) := by decide +kernel
theorem dX5_tellOn_10 : decode cX5_tellOn 10 = .ok (.aload_n 0, 1) := by decide +kernel
theorem dX5_tellOn_11 : decode cX5_tellOn 11 = .ok (.getfield 11, 3) := by decide +kernel
theorem dX5_tellOn_14 : decode cX5_tellOn 14 = .ok (.iload_n 1, 1) := by decide +kernel
theorem dX5_tellOn_15 : decode cX5_tellOn 15 = .ok (.iaload, 1) := by decide +kernel
theorem dX5_tellOn_16 : decode cX5_tellOn 16 = .ok (.goto 4, 3) := by decide +kernel
theorem dX5_tellOn_19 : decode cX5_tellOn 19 = .ok (.iconst (-1), 1) := by decide +kernel
theorem dX5_tellOn_20 : decode cX5_tellOn 20 = .ok (.istore_n 3, 1) := by decide +kernel
theorem dX5_tellOn_21 : decode cX5_tellOn 21 = .ok (.iconst 0, 1) := by decide +kernel
theorem dX5_tellOn_22 : decode cX5_tellOn 22 = .ok (.istore 4, 2) := by decide +kernel
theorem dX5_tellOn_24 : decode cX5_tellOn 24 = .ok (.iload 4, 2) := by decide +kernel
theorem dX5_tellOn_26 : decode cX5_tellOn 26 = .ok (.sipush 600, 3) := by decide +kernel
theorem dX5_tellOn_29 : decode cX5_tellOn 29 = .ok (.if_icmp .ge 39, 3) := by decide +kernel
theorem dX5_tellOn_32 : decode cX5_tellOn 32 = .ok (.iload_n 3, 1) := by decide +kernel
theorem dX5_tellOn_33 : decode cX5_tellOn 33 = .ok (.ifCond .lt 35, 3) := by decide +kernel
theorem dX5_tellOn_36 : decode cX5_tellOn 36 = .ok (.iload_n 3, 1) := by decide +kernel
theorem dX5_tellOn_37 : decode cX5_tellOn 37 = .ok (.sipush 600, 3) := by decide +kernel
theorem dX5_tellOn_40 : decode cX5_tellOn 40 = .ok (.if_icmp .ge 28, 3) := by decide +kernel
theorem dX5_tellOn_43 : decode cX5_tellOn 43 = .ok (.aload_n 0, 1) := by decide +kernel
theorem dX5_tellOn_44 : decode cX5_tellOn 44 = .ok (.getfield 21, 3) := by decide +kernel
theorem dX5_tellOn_47 : decode cX5_tellOn 47 = .ok (.iload_n 3, 1) := by decide +kernel
theorem dX5_tellOn_48 : decode cX5_tellOn 48 = .ok (.iaload, 1) := by decide +kernel
theorem dX5_tellOn_49 : decode cX5_tellOn 49 = .ok (.iload_n 2, 1) := by decide +kernel
theorem dX5_tellOn_50 : decode cX5_tellOn 50 = .ok (.if_icmp .gt 5, 3) := by decide +kernel
theorem dX5_tellOn_53 : decode cX5_tellOn 53 = .ok (.iload_n 3, 1) := by decide +kernel
theorem dX5_tellOn_54 : decode cX5_tellOn 54 = .ok (.ireturn, 1) := by decide +kernel
theorem dX5_tellOn_55 : decode cX5_tellOn 55 = .ok (.aload_n 0, 1) := by decide +kernel
theorem dX5_tellOn_56 : decode cX5_tellOn 56 = .ok (.getfield 24, 3) := by decide +kernel
theorem dX5_tellOn_59 : decode cX5_tellOn 59 = .ok (.iload_n 3, 1) := by decide +kernel
theorem dX5_tellOn_60 : decode cX5_tellOn 60 = .ok (.iaload, 1) := by decide +kernel
theorem dX5_tellOn_61 : decode cX5_tellOn 61 = .ok (.istore_n 3, 1) := by decide +kernel
theorem dX5_tellOn_62 : decode cX5_tellOn 62 = .ok (.iinc 4 1, 3) := by decide +kernel
theorem dX5_tellOn_65 : decode cX5_tellOn 65 = .ok (.goto (-41), 3) := by decide +kernel
theorem dX5_tellOn_68 : decode cX5_tellOn 68 = .ok (.iconst (-1), 1) := by decide +kernel
theorem dX5_tellOn_69 : decode cX5_tellOn 69 = .ok (.ireturn, 1) := by decide +kernel
theorem dX5_valueOn_0 : decode cX5_valueOn 0 = .ok (.aload_n 0, 1) := by decide +kernel
theorem dX5_valueOn_1 : decode cX5_valueOn 1 = .ok (.iload_n 1, 1) := by decide +kernel
theorem dX5_valueOn_2 : decode cX5_valueOn 2 = .ok (.iload_n 2, 1) := by decide +kernel
theorem dX5_valueOn_3 : decode cX5_valueOn 3 = .ok (.invokevirtual 53, 3) := by decide +kernel
theorem dX5_valueOn_6 : decode cX5_valueOn 6 = .ok (.istore_n 3, 1) := by decide +kernel
theorem dX5_valueOn_7 : decode cX5_valueOn 7 = .ok (.iload_n 3, 1) := by decide +kernel
theorem dX5_valueOn_8 : decode cX5_valueOn 8 = .ok (.ifCond .lt 19, 3) := by decide +kernel
theorem dX5_valueOn_11 : decode cX5_valueOn 11 = .ok (.iload_n 3, 1) := by decide +kernel
theorem dX5_valueOn_12 : decode cX5_valueOn 12 = .ok (.sipush 600, 3) := by decide +kernel
theorem dX5_valueOn_15 : decode cX5_valueOn 15 = .ok (.if_icmp .ge 12, 3) := by decide +kernel
theorem dX5_valueOn_18 : decode cX5_valueOn 18 = .ok (.aload_n 0, 1) := by decide +kernel
theorem dX5_valueOn_19 : decode cX5_valueOn 19 = .ok (.getfield 15, 3) := by decide +kernel
theorem dX5_valueOn_22 : decode cX5_valueOn 22 = .ok (.iload_n 3, 1) := by decide +kernel
theorem dX5_valueOn_23 : decode cX5_valueOn 23 = .ok (.iaload, 1) := by decide +kernel
theorem dX5_valueOn_24 : decode cX5_valueOn 24 = .ok (.goto 4, 3) := by decide +kernel
theorem dX5_valueOn_27 : decode cX5_valueOn 27 = .ok (.iconst (-1), 1) := by decide +kernel
theorem dX5_valueOn_28 : decode cX5_valueOn 28 = .ok (.ireturn, 1) := by decide +kernel
theorem dX5_sourceOn_0 : decode cX5_sourceOn 0 = .ok (.aload_n 0, 1) := by decide +kernel
theorem dX5_sourceOn_1 : decode cX5_sourceOn 1 = .ok (.iload_n 1, 1) := by decide +kernel
theorem dX5_sourceOn_2 : decode cX5_sourceOn 2 = .ok (.iload_n 2, 1) := by decide +kernel
theorem dX5_sourceOn_3 : decode cX5_sourceOn 3 = .ok (.invokevirtual 53, 3) := by decide +kernel
theorem dX5_sourceOn_6 : decode cX5_sourceOn 6 = .ok (.istore_n 3, 1) := by decide +kernel
theorem dX5_sourceOn_7 : decode cX5_sourceOn 7 = .ok (.iload_n 3, 1) := by decide +kernel
theorem dX5_sourceOn_8 : decode cX5_sourceOn 8 = .ok (.ifCond .lt 19, 3) := by decide +kernel
theorem dX5_sourceOn_11 : decode cX5_sourceOn 11 = .ok (.iload_n 3, 1) := by decide +kernel
theorem dX5_sourceOn_12 : decode cX5_sourceOn 12 = .ok (.sipush 600, 3) := by decide +kernel
theorem dX5_sourceOn_15 : decode cX5_sourceOn 15 = .ok (.if_icmp .ge 12, 3) := by decide +kernel
theorem dX5_sourceOn_18 : decode cX5_sourceOn 18 = .ok (.aload_n 0, 1) := by decide +kernel
theorem dX5_sourceOn_19 : decode cX5_sourceOn 19 = .ok (.getfield 18, 3) := by decide +kernel
theorem dX5_sourceOn_22 : decode cX5_sourceOn 22 = .ok (.iload_n 3, 1) := by decide +kernel
theorem dX5_sourceOn_23 : decode cX5_sourceOn 23 = .ok (.iaload, 1) := by decide +kernel
theorem dX5_sourceOn_24 : decode cX5_sourceOn 24 = .ok (.goto 4, 3) := by decide +kernel
theorem dX5_sourceOn_27 : decode cX5_sourceOn 27 = .ok (.iconst (-1), 1) := by decide +kernel
theorem dX5_sourceOn_28 : decode cX5_sourceOn 28 = .ok (.ireturn, 1) := by decide +kernel
theorem dX5_addErratum_0 : decode cX5_addErratum 0 = .ok (.aload_n 0, 1) := by decide +kernel
theorem dX5_addErratum_1 : decode cX5_addErratum 1 = .ok (.getfield 57, 3) := by decide +kernel
theorem dX5_addErratum_4 : decode cX5_addErratum 4 = .ok (.ifCond .lt 12, 3) := by decide +kernel
theorem dX5_addErratum_7 : decode cX5_addErratum 7 = .ok (.aload_n 0, 1) := by decide +kernel
theorem dX5_addErratum_8 : decode cX5_addErratum 8 = .ok (.getfield 57, 3) := by decide +kernel
theorem dX5_addErratum_11 : decode cX5_addErratum 11 = .ok (.bipush 60, 2) := by decide +kernel
theorem dX5_addErratum_13 : decode cX5_addErratum 13 = .ok (.if_icmp .lt 5, 3) := by decide +kernel
theorem dX5_addErratum_16 : decode cX5_addErratum 16 = .ok (.iconst (-1), 1) := by decide +kernel
theorem dX5_addErratum_17 : decode cX5_addErratum 17 = .ok (.ireturn, 1) := by decide +kernel
theorem dX5_addErratum_18 : decode cX5_addErratum 18 = .ok (.aload_n 0, 1) := by decide +kernel
theorem dX5_addErratum_19 : decode cX5_addErratum 19 = .ok (.getfield 27, 3) := by decide +kernel
theorem dX5_addErratum_22 : decode cX5_addErratum 22 = .ok (.aload_n 0, 1) := by decide +kernel
theorem dX5_addErratum_23 : decode cX5_addErratum 23 = .ok (.getfield 57, 3) := by decide +kernel
theorem dX5_addErratum_26 : decode cX5_addErratum 26 = .ok (.iload_n 1, 1) := by decide +kernel
theorem dX5_addErratum_27 : decode cX5_addErratum 27 = .ok (.iastore, 1) := by decide +kernel
theorem dX5_addErratum_28 : decode cX5_addErratum 28 = .ok (.aload_n 0, 1) := by decide +kernel
theorem dX5_addErratum_29 : decode cX5_addErratum 29 = .ok (.getfield 30, 3) := by decide +kernel
theorem dX5_addErratum_32 : decode cX5_addErratum 32 = .ok (.aload_n 0, 1) := by decide +kernel
theorem dX5_addErratum_33 : decode cX5_addErratum 33 = .ok (.getfield 57, 3) := by decide +kernel
theorem dX5_addErratum_36 : decode cX5_addErratum 36 = .ok (.iload_n 2, 1) := by decide +kernel
theorem dX5_addErratum_37 : decode cX5_addErratum 37 = .ok (.iastore, 1) := by decide +kernel
theorem dX5_addErratum_38 : decode cX5_addErratum 38 = .ok (.aload_n 0, 1) := by decide +kernel
theorem dX5_addErratum_39 : decode cX5_addErratum 39 = .ok (.getfield 33, 3) := by decide +kernel
theorem dX5_addErratum_42 : decode cX5_addErratum 42 = .ok (.aload_n 0, 1) := by decide +kernel
theorem dX5_addErratum_43 : decode cX5_addErratum 43 = .ok (.getfield 57, 3) := by decide +kernel
theorem dX5_addErratum_46 : decode cX5_addErratum 46 = .ok (.iload_n 3, 1) := by decide +kernel
theorem dX5_addErratum_47 : decode cX5_addErratum 47 = .ok (.iastore, 1) := by decide +kernel
theorem dX5_addErratum_48 : decode cX5_addErratum 48 = .ok (.aload_n 0, 1) := by decide +kernel
theorem dX5_addErratum_49 : decode cX5_addErratum 49 = .ok (.getfield 36, 3) := by decide +kernel
theorem dX5_addErratum_52 : decode cX5_addErratum 52 = .ok (.aload_n 0, 1) := by decide +kernel
theorem dX5_addErratum_53 : decode cX5_addErratum 53 = .ok (.getfield 57, 3) := by decide +kernel
theorem dX5_addErratum_56 : decode cX5_addErratum 56 = .ok (.iload 4, 2) := by decide +kernel
theorem dX5_addErratum_58 : decode cX5_addErratum 58 = .ok (.iastore, 1) := by decide +kernel
theorem dX5_addErratum_59 : decode cX5_addErratum 59 = .ok (.aload_n 0, 1) := by decide +kernel
theorem dX5_addErratum_60 : decode cX5_addErratum 60 = .ok (.getfield 39, 3) := by decide +kernel
theorem dX5_addErratum_63 : decode cX5_addErratum 63 = .ok (.aload_n 0, 1) := by decide +kernel
theorem dX5_addErratum_64 : decode cX5_addErratum 64 = .ok (.getfield 57, 3) := by decide +kernel
theorem dX5_addErratum_67 : decode cX5_addErratum 67 = .ok (.iload 5, 2) := by decide +kernel
theorem dX5_addErratum_69 : decode cX5_addErratum 69 = .ok (.bastore, 1) := by decide +kernel
theorem dX5_addErratum_70 : decode cX5_addErratum 70 = .ok (.aload_n 0, 1) := by decide +kernel
theorem dX5_addErratum_71 : decode cX5_addErratum 71 = .ok (.dup, 1) := by decide +kernel
theorem dX5_addErratum_72 : decode cX5_addErratum 72 = .ok (.getfield 57, 3) := by decide +kernel
theorem dX5_addErratum_75 : decode cX5_addErratum 75 = .ok (.iconst 1, 1) := by decide +kernel
theorem dX5_addErratum_76 : decode cX5_addErratum 76 = .ok (.iadd, 1) := by decide +kernel
theorem dX5_addErratum_77 : decode cX5_addErratum 77 = .ok (.putfield 57, 3) := by decide +kernel
theorem dX5_addErratum_80 : decode cX5_addErratum 80 = .ok (.aload_n 0, 1) := by decide +kernel
theorem dX5_addErratum_81 : decode cX5_addErratum 81 = .ok (.getfield 57, 3) := by decide +kernel
theorem dX5_addErratum_84 : decode cX5_addErratum 84 = .ok (.iconst 1, 1) := by decide +kernel
theorem dX5_addErratum_85 : decode cX5_addErratum 85 = .ok (.isub, 1) := by decide +kernel
theorem dX5_addErratum_86 : decode cX5_addErratum 86 = .ok (.ireturn, 1) := by decide +kernel
theorem dX5_missedBy_0 : decode cX5_missedBy 0 = .ok (.iload_n 1, 1) := by decide +kernel
theorem dX5_missedBy_1 : decode cX5_missedBy 1 = .ok (.ifCond .lt 17, 3) := by decide +kernel
theorem dX5_missedBy_4 : decode cX5_missedBy 4 = .ok (.iload_n 1, 1) := by decide +kernel
theorem dX5_missedBy_5 : decode cX5_missedBy 5 = .ok (.aload_n 0, 1) := by decide +kernel
theorem dX5_missedBy_6 : decode cX5_missedBy 6 = .ok (.getfield 57, 3) := by decide +kernel
theorem dX5_missedBy_9 : decode cX5_missedBy 9 = .ok (.if_icmp .ge 9, 3) := by decide +kernel
theorem dX5_missedBy_12 : decode cX5_missedBy 12 = .ok (.iload_n 1, 1) := by decide +kernel
theorem dX5_missedBy_13 : decode cX5_missedBy 13 = .ok (.bipush 60, 2) := by decide +kernel
theorem dX5_missedBy_15 : decode cX5_missedBy 15 = .ok (.if_icmp .lt 5, 3) := by decide +kernel
theorem dX5_missedBy_18 : decode cX5_missedBy 18 = .ok (.iconst (-1), 1) := by decide +kernel
theorem dX5_missedBy_19 : decode cX5_missedBy 19 = .ok (.ireturn, 1) := by decide +kernel
theorem dX5_missedBy_20 : decode cX5_missedBy 20 = .ok (.aload_n 0, 1) := by decide +kernel
theorem dX5_missedBy_21 : decode cX5_missedBy 21 = .ok (.getfield 39, 3) := by decide +kernel
theorem dX5_missedBy_24 : decode cX5_missedBy 24 = .ok (.iload_n 1, 1) := by decide +kernel
theorem dX5_missedBy_25 : decode cX5_missedBy 25 = .ok (.baload, 1) := by decide +kernel
theorem dX5_missedBy_26 : decode cX5_missedBy 26 = .ok (.ifCond .eq 7, 3) := by decide +kernel
theorem dX5_missedBy_29 : decode cX5_missedBy 29 = .ok (.iconst 1, 1) := by decide +kernel
theorem dX5_missedBy_30 : decode cX5_missedBy 30 = .ok (.goto 4, 3) := by decide +kernel
theorem dX5_missedBy_33 : decode cX5_missedBy 33 = .ok (.iconst 0, 1) := by decide +kernel
theorem dX5_missedBy_34 : decode cX5_missedBy 34 = .ok (.ireturn, 1) := by decide +kernel
theorem dX5_keptOn_0 : decode cX5_keptOn 0 = .ok (.iload_n 2, 1) := by decide +kernel
theorem dX5_keptOn_1 : decode cX5_keptOn 1 = .ok (.istore 4, 2) := by decide +kernel
theorem dX5_keptOn_3 : decode cX5_keptOn 3 = .ok (.iconst 0, 1) := by decide +kernel
theorem dX5_keptOn_4 : decode cX5_keptOn 4 = .ok (.istore 5, 2) := by decide +kernel
theorem dX5_keptOn_6 : decode cX5_keptOn 6 = .ok (.iload 5, 2) := by decide +kernel
theorem dX5_keptOn_8 : decode cX5_keptOn 8 = .ok (.aload_n 0, 1) := by decide +kernel
theorem dX5_keptOn_9 : decode cX5_keptOn 9 = .ok (.getfield 57, 3) := by decide +kernel
theorem dX5_keptOn_12 : decode cX5_keptOn 12 = .ok (.if_icmp .ge 59, 3) := by decide +kernel
theorem dX5_keptOn_15 : decode cX5_keptOn 15 = .ok (.iload 5, 2) := by decide +kernel
theorem dX5_keptOn_17 : decode cX5_keptOn 17 = .ok (.bipush 60, 2) := by decide +kernel
theorem dX5_keptOn_19 : decode cX5_keptOn 19 = .ok (.if_icmp .ge 52, 3) := by decide +kernel
theorem dX5_keptOn_22 : decode cX5_keptOn 22 = .ok (.aload_n 0, 1) := by decide +kernel
theorem dX5_keptOn_23 : decode cX5_keptOn 23 = .ok (.getfield 27, 3) := by decide +kernel
theorem dX5_keptOn_26 : decode cX5_keptOn 26 = .ok (.iload 5, 2) := by decide +kernel
theorem dX5_keptOn_28 : decode cX5_keptOn 28 = .ok (.iaload, 1) := by decide +kernel
theorem dX5_keptOn_29 : decode cX5_keptOn 29 = .ok (.iload_n 1, 1) := by decide +kernel
theorem dX5_keptOn_30 : decode cX5_keptOn 30 = .ok (.if_icmp .ne 35, 3) := by decide +kernel
theorem dX5_keptOn_33 : decode cX5_keptOn 33 = .ok (.aload_n 0, 1) := by decide +kernel
theorem dX5_keptOn_34 : decode cX5_keptOn 34 = .ok (.getfield 36, 3) := by decide +kernel
theorem dX5_keptOn_37 : decode cX5_keptOn 37 = .ok (.iload 5, 2) := by decide +kernel
theorem dX5_keptOn_39 : decode cX5_keptOn 39 = .ok (.iaload, 1) := by decide +kernel
theorem dX5_keptOn_40 : decode cX5_keptOn 40 = .ok (.iload_n 3, 1) := by decide +kernel
theorem dX5_keptOn_41 : decode cX5_keptOn 41 = .ok (.if_icmp .gt 24, 3) := by decide +kernel
theorem dX5_keptOn_44 : decode cX5_keptOn 44 = .ok (.aload_n 0, 1) := by decide +kernel
theorem dX5_keptOn_45 : decode cX5_keptOn 45 = .ok (.getfield 30, 3) := by decide +kernel
theorem dX5_keptOn_48 : decode cX5_keptOn 48 = .ok (.iload 5, 2) := by decide +kernel
theorem dX5_keptOn_50 : decode cX5_keptOn 50 = .ok (.iaload, 1) := by decide +kernel
theorem dX5_keptOn_51 : decode cX5_keptOn 51 = .ok (.iload 4, 2) := by decide +kernel
theorem dX5_keptOn_53 : decode cX5_keptOn 53 = .ok (.if_icmp .ne 12, 3) := by decide +kernel
theorem dX5_keptOn_56 : decode cX5_keptOn 56 = .ok (.aload_n 0, 1) := by decide +kernel
theorem dX5_keptOn_57 : decode cX5_keptOn 57 = .ok (.getfield 33, 3) := by decide +kernel
theorem dX5_keptOn_60 : decode cX5_keptOn 60 = .ok (.iload 5, 2) := by decide +kernel
theorem dX5_keptOn_62 : decode cX5_keptOn 62 = .ok (.iaload, 1) := by decide +kernel
theorem dX5_keptOn_63 : decode cX5_keptOn 63 = .ok (.istore 4, 2) := by decide +kernel
theorem dX5_keptOn_65 : decode cX5_keptOn 65 = .ok (.iinc 5 1, 3) := by decide +kernel
theorem dX5_keptOn_68 : decode cX5_keptOn 68 = .ok (.goto (-62), 3) := by decide +kernel
theorem dX5_keptOn_71 : decode cX5_keptOn 71 = .ok (.iload 4, 2) := by decide +kernel
theorem dX5_keptOn_73 : decode cX5_keptOn 73 = .ok (.ireturn, 1) := by decide +kernel
theorem dX6_init_0 : decode cX6_init 0 = .ok (.aload_n 0, 1) := by decide +kernel
theorem dX6_init_1 : decode cX6_init 1 = .ok (.invokespecial 1, 3) := by decide +kernel
theorem dX6_init_4 : decode cX6_init 4 = .ok (.aload_n 0, 1) := by decide +kernel
theorem dX6_init_5 : decode cX6_init 5 = .ok (.aload_n 1, 1) := by decide +kernel
theorem dX6_init_6 : decode cX6_init 6 = .ok (.putfield 7, 3) := by decide +kernel
theorem dX6_init_9 : decode cX6_init 9 = .ok (.return_, 1) := by decide +kernel
theorem dX6_take_0 : decode cX6_take 0 = .ok (.aload_n 0, 1) := by decide +kernel
theorem dX6_take_1 : decode cX6_take 1 = .ok (.iload_n 1, 1) := by decide +kernel
theorem dX6_take_2 : decode cX6_take 2 = .ok (.putfield 13, 3) := by decide +kernel
theorem dX6_take_5 : decode cX6_take 5 = .ok (.aload_n 0, 1) := by decide +kernel
theorem dX6_take_6 : decode cX6_take 6 = .ok (.iload_n 2, 1) := by decide +kernel
theorem dX6_take_7 : decode cX6_take 7 = .ok (.putfield 17, 3) := by decide +kernel
theorem dX6_take_10 : decode cX6_take 10 = .ok (.aload_n 0, 1) := by decide +kernel
theorem dX6_take_11 : decode cX6_take 11 = .ok (.iconst 1, 1) := by decide +kernel
theorem dX6_take_12 : decode cX6_take 12 = .ok (.putfield 20, 3) := by decide +kernel
theorem dX6_take_15 : decode cX6_take 15 = .ok (.aload_n 0, 1) := by decide +kernel
theorem dX6_take_16 : decode cX6_take 16 = .ok (.aload_n 0, 1) := by decide +kernel
theorem dX6_take_17 : decode cX6_take 17 = .ok (.getfield 7, 3) := by decide +kernel
theorem dX6_take_20 : decode cX6_take 20 = .ok (.iconst 1, 1) := by decide +kernel
theorem dX6_take_21 : decode cX6_take 21 = .ok (.iload_n 1, 1) := by decide +kernel
theorem dX6_take_22 : decode cX6_take 22 = .ok (.iload_n 2, 1) := by decide +kernel
theorem dX6_take_23 : decode cX6_take 23 = .ok (.invokevirtual 26, 3) := by decide +kernel
theorem dX6_take_26 : decode cX6_take 26 = .ok (.ifCond .eq 7, 3) := by decide +kernel
theorem dX6_take_29 : decode cX6_take 29 = .ok (.iconst 1, 1) := by decide +kernel
theorem dX6_take_30 : decode cX6_take 30 = .ok (.goto 4, 3) := by decide +kernel
theorem dX6_take_33 : decode cX6_take 33 = .ok (.iconst 0, 1) := by decide +kernel
theorem dX6_take_34 : decode cX6_take 34 = .ok (.putfield 32, 3) := by decide +kernel
theorem dX6_take_37 : decode cX6_take 37 = .ok (.aload_n 0, 1) := by decide +kernel
theorem dX6_take_38 : decode cX6_take 38 = .ok (.aload_n 0, 1) := by decide +kernel
theorem dX6_take_39 : decode cX6_take 39 = .ok (.getfield 7, 3) := by decide +kernel
theorem dX6_take_42 : decode cX6_take 42 = .ok (.iconst 0, 1) := by decide +kernel
theorem dX6_take_43 : decode cX6_take 43 = .ok (.iload_n 1, 1) := by decide +kernel
theorem dX6_take_44 : decode cX6_take 44 = .ok (.iload_n 2, 1) := by decide +kernel
theorem dX6_take_45 : decode cX6_take 45 = .ok (.invokevirtual 26, 3) := by decide +kernel
theorem dX6_take_48 : decode cX6_take 48 = .ok (.ifCond .eq 7, 3) := by decide +kernel
theorem dX6_take_51 : decode cX6_take 51 = .ok (.iconst 1, 1) := by decide +kernel
theorem dX6_take_52 : decode cX6_take 52 = .ok (.goto 4, 3) := by decide +kernel
theorem dX6_take_55 : decode cX6_take 55 = .ok (.iconst 0, 1) := by decide +kernel
theorem dX6_take_56 : decode cX6_take 56 = .ok (.putfield 35, 3) := by decide +kernel
theorem dX6_take_59 : decode cX6_take 59 = .ok (.return_, 1) := by decide +kernel
theorem dX6_turn_0 : decode cX6_turn 0 = .ok (.iload_n 1, 1) := by decide +kernel
theorem dX6_turn_1 : decode cX6_turn 1 = .ok (.iconst 1, 1) := by decide +kernel
theorem dX6_turn_2 : decode cX6_turn 2 = .ok (.if_icmp .ne 11, 3) := by decide +kernel
theorem dX6_turn_5 : decode cX6_turn 5 = .ok (.aload_n 0, 1) := by decide +kernel
theorem dX6_turn_6 : decode cX6_turn 6 = .ok (.iconst 0, 1) := by decide +kernel
theorem dX6_turn_7 : decode cX6_turn 7 = .ok (.putfield 20, 3) := by decide +kernel
theorem dX6_turn_10 : decode cX6_turn 10 = .ok (.goto 43, 3) := by decide +kernel
theorem dX6_turn_13 : decode cX6_turn 13 = .ok (.iload_n 1, 1) := by decide +kernel
theorem dX6_turn_14 : decode cX6_turn 14 = .ok (.iconst 2, 1) := by decide +kernel
theorem dX6_turn_15 : decode cX6_turn 15 = .ok (.if_icmp .ne 22, 3) := by decide +kernel
theorem dX6_turn_18 : decode cX6_turn 18 = .ok (.aload_n 0, 1) := by decide +kernel
theorem dX6_turn_19 : decode cX6_turn 19 = .ok (.aload_n 0, 1) := by decide +kernel
theorem dX6_turn_20 : decode cX6_turn 20 = .ok (.getfield 32, 3) := by decide +kernel
theorem dX6_turn_23 : decode cX6_turn 23 = .ok (.ifCond .ne 7, 3) := by decide +kernel
theorem dX6_turn_26 : decode cX6_turn 26 = .ok (.iconst 1, 1) := by decide +kernel
theorem dX6_turn_27 : decode cX6_turn 27 = .ok (.goto 4, 3) := by decide +kernel
theorem dX6_turn_30 : decode cX6_turn 30 = .ok (.iconst 0, 1) := by decide +kernel
theorem dX6_turn_31 : decode cX6_turn 31 = .ok (.putfield 32, 3) := by decide +kernel
theorem dX6_turn_34 : decode cX6_turn 34 = .ok (.goto 19, 3) := by decide +kernel
theorem dX6_turn_37 : decode cX6_turn 37 = .ok (.aload_n 0, 1) := by decide +kernel
theorem dX6_turn_38 : decode cX6_turn 38 = .ok (.aload_n 0, 1) := by decide +kernel
theorem dX6_turn_39 : decode cX6_turn 39 = .ok (.getfield 35, 3) := by decide +kernel
theorem dX6_turn_42 : decode cX6_turn 42 = .ok (.ifCond .ne 7, 3) := by decide +kernel
theorem dX6_turn_45 : decode cX6_turn 45 = .ok (.iconst 1, 1) := by decide +kernel
theorem dX6_turn_46 : decode cX6_turn 46 = .ok (.goto 4, 3) := by decide +kernel
theorem dX6_turn_49 : decode cX6_turn 49 = .ok (.iconst 0, 1) := by decide +kernel
theorem dX6_turn_50 : decode cX6_turn 50 = .ok (.putfield 35, 3) := by decide +kernel
theorem dX6_turn_53 : decode cX6_turn 53 = .ok (.return_, 1) := by decide +kernel
theorem dX6_prepare_0 : decode cX6_prepare 0 = .ok (.aload_n 0, 1) := by decide +kernel
theorem dX6_prepare_1 : decode cX6_prepare 1 = .ok (.getfield 20, 3) := by decide +kernel
theorem dX6_prepare_4 : decode cX6_prepare 4 = .ok (.ifCond .eq 36, 3) := by decide +kernel
theorem dX6_prepare_7 : decode cX6_prepare 7 = .ok (.aload_n 1, 1) := by decide +kernel
theorem dX6_prepare_8 : decode cX6_prepare 8 = .ok (.getfield 38, 3) := by decide +kernel
theorem dX6_prepare_11 : decode cX6_prepare 11 = .ok (.ifCond .le 29, 3) := by decide +kernel
theorem dX6_prepare_14 : decode cX6_prepare 14 = .ok (.aload_n 0, 1) := by decide +kernel
theorem dX6_prepare_15 : decode cX6_prepare 15 = .ok (.getfield 7, 3) := by decide +kernel
theorem dX6_prepare_18 : decode cX6_prepare 18 = .ok (.aload_n 1, 1) := by decide +kernel
theorem dX6_prepare_19 : decode cX6_prepare 19 = .ok (.getfield 43, 3) := by decide +kernel
theorem dX6_prepare_22 : decode cX6_prepare 22 = .ok (.aload_n 0, 1) := by decide +kernel
theorem dX6_prepare_23 : decode cX6_prepare 23 = .ok (.getfield 13, 3) := by decide +kernel
theorem dX6_prepare_26 : decode cX6_prepare 26 = .ok (.aload_n 0, 1) := by decide +kernel
theorem dX6_prepare_27 : decode cX6_prepare 27 = .ok (.getfield 17, 3) := by decide +kernel
theorem dX6_prepare_30 : decode cX6_prepare 30 = .ok (.invokevirtual 47, 3) := by decide +kernel
theorem dX6_prepare_33 : decode cX6_prepare 33 = .ok (.ifCond .eq 7, 3) := by decide +kernel
theorem dX6_prepare_36 : decode cX6_prepare 36 = .ok (.iconst 1, 1) := by decide +kernel
theorem dX6_prepare_37 : decode cX6_prepare 37 = .ok (.goto 4, 3) := by decide +kernel
theorem dX6_prepare_40 : decode cX6_prepare 40 = .ok (.iconst 0, 1) := by decide +kernel
theorem dX6_prepare_41 : decode cX6_prepare 41 = .ok (.istore_n 2, 1) := by decide +kernel
theorem dX6_prepare_42 : decode cX6_prepare 42 = .ok (.aload_n 1, 1) := by decide +kernel
theorem dX6_prepare_43 : decode cX6_prepare 43 = .ok (.iload_n 2, 1) := by decide +kernel
theorem dX6_prepare_44 : decode cX6_prepare 44 = .ok (.ifCond .eq 10, 3) := by decide +kernel
theorem dX6_prepare_47 : decode cX6_prepare 47 = .ok (.aload_n 1, 1) := by decide +kernel
theorem dX6_prepare_48 : decode cX6_prepare 48 = .ok (.getfield 38, 3) := by decide +kernel
theorem dX6_prepare_51 : decode cX6_prepare 51 = .ok (.goto 4, 3) := by decide +kernel
theorem dX6_prepare_54 : decode cX6_prepare 54 = .ok (.iconst 0, 1) := by decide +kernel
theorem dX6_prepare_55 : decode cX6_prepare 55 = .ok (.putfield 50, 3) := by decide +kernel
theorem dX6_prepare_58 : decode cX6_prepare 58 = .ok (.return_, 1) := by decide +kernel
theorem dX6_isAhead_0 : decode cX6_isAhead 0 = .ok (.aload_n 0, 1) := by decide +kernel
theorem dX6_isAhead_1 : decode cX6_isAhead 1 = .ok (.aload_n 1, 1) := by decide +kernel
theorem dX6_isAhead_2 : decode cX6_isAhead 2 = .ok (.aload_n 2, 1) := by decide +kernel
theorem dX6_isAhead_3 : decode cX6_isAhead 3 = .ok (.invokevirtual 53, 3) := by decide +kernel
theorem dX6_isAhead_6 : decode cX6_isAhead 6 = .ok (.istore_n 3, 1) := by decide +kernel
theorem dX6_isAhead_7 : decode cX6_isAhead 7 = .ok (.iload_n 3, 1) := by decide +kernel
theorem dX6_isAhead_8 : decode cX6_isAhead 8 = .ok (.ifCond .lt 18, 3) := by decide +kernel
theorem dX6_isAhead_11 : decode cX6_isAhead 11 = .ok (.iload_n 3, 1) := by decide +kernel
theorem dX6_isAhead_12 : decode cX6_isAhead 12 = .ok (.ifCond .ne 18, 3) := by decide +kernel
theorem dX6_isAhead_15 : decode cX6_isAhead 15 = .ok (.aload_n 1, 1) := by decide +kernel
theorem dX6_isAhead_16 : decode cX6_isAhead 16 = .ok (.getfield 57, 3) := by decide +kernel
theorem dX6_isAhead_19 : decode cX6_isAhead 19 = .ok (.aload_n 2, 1) := by decide +kernel
theorem dX6_isAhead_20 : decode cX6_isAhead 20 = .ok (.getfield 57, 3) := by decide +kernel
theorem dX6_isAhead_23 : decode cX6_isAhead 23 = .ok (.if_icmp .ge 7, 3) := by decide +kernel
theorem dX6_isAhead_26 : decode cX6_isAhead 26 = .ok (.iconst 1, 1) := by decide +kernel
theorem dX6_isAhead_27 : decode cX6_isAhead 27 = .ok (.goto 4, 3) := by decide +kernel
theorem dX6_isAhead_30 : decode cX6_isAhead 30 = .ok (.iconst 0, 1) := by decide +kernel
theorem dX6_isAhead_31 : decode cX6_isAhead 31 = .ok (.ireturn, 1) := by decide +kernel
theorem dX6_compareKeys_0 : decode cX6_compareKeys 0 = .ok (.aload_n 1, 1) := by decide +kernel
theorem dX6_compareKeys_1 : decode cX6_compareKeys 1 = .ok (.getfield 50, 3) := by decide +kernel
theorem dX6_compareKeys_4 : decode cX6_compareKeys 4 = .ok (.istore_n 3, 1) := by decide +kernel
theorem dX6_compareKeys_5 : decode cX6_compareKeys 5 = .ok (.aload_n 2, 1) := by decide +kernel
theorem dX6_compareKeys_6 : decode cX6_compareKeys 6 = .ok (.getfield 50, 3) := by decide +kernel
theorem dX6_compareKeys_9 : decode cX6_compareKeys 9 = .ok (.istore 4, 2) := by decide +kernel
theorem dX6_compareKeys_11 : decode cX6_compareKeys 11 = .ok (.iconst 0, 1) := by decide +kernel
theorem dX6_compareKeys_12 : decode cX6_compareKeys 12 = .ok (.istore 5, 2) := by decide +kernel
theorem dX6_compareKeys_14 : decode cX6_compareKeys 14 = .ok (.iload 5, 2) := by decide +kernel
theorem dX6_compareKeys_16 : decode cX6_compareKeys 16 = .ok (.bipush 12, 2) := by decide +kernel
theorem dX6_compareKeys_18 : decode cX6_compareKeys 18 = .ok (.if_icmp .ge 111, 3) := by decide +kernel
theorem dX6_compareKeys_21 : decode cX6_compareKeys 21 = .ok (.iload_n 3, 1) := by decide +kernel
theorem dX6_compareKeys_22 : decode cX6_compareKeys 22 = .ok (.aload_n 0, 1) := by decide +kernel
theorem dX6_compareKeys_23 : decode cX6_compareKeys 23 = .ok (.getfield 32, 3) := by decide +kernel
theorem dX6_compareKeys_26 : decode cX6_compareKeys 26 = .ok (.ifCond .ne 17, 3) := by decide +kernel
theorem dX6_compareKeys_29 : decode cX6_compareKeys 29 = .ok (.aload_n 1, 1) := by decide +kernel
theorem dX6_compareKeys_30 : decode cX6_compareKeys 30 = .ok (.iload_n 3, 1) := by decide +kernel
theorem dX6_compareKeys_31 : decode cX6_compareKeys 31 = .ok (.invokevirtual 60, 3) := by decide +kernel
theorem dX6_compareKeys_34 : decode cX6_compareKeys 34 = .ok (.bipush 32, 2) := by decide +kernel
theorem dX6_compareKeys_36 : decode cX6_compareKeys 36 = .ok (.if_icmp .ne 7, 3) := by decide +kernel
theorem dX6_compareKeys_39 : decode cX6_compareKeys 39 = .ok (.iconst 1, 1) := by decide +kernel
theorem dX6_compareKeys_40 : decode cX6_compareKeys 40 = .ok (.goto 4, 3) := by decide +kernel
theorem dX6_compareKeys_43 : decode cX6_compareKeys 43 = .ok (.iconst 0, 1) := by decide +kernel
theorem dX6_compareKeys_44 : decode cX6_compareKeys 44 = .ok (.iadd, 1) := by decide +kernel
theorem dX6_compareKeys_45 : decode cX6_compareKeys 45 = .ok (.istore_n 3, 1) := by decide +kernel
theorem dX6_compareKeys_46 : decode cX6_compareKeys 46 = .ok (.iload 4, 2) := by decide +kernel
theorem dX6_compareKeys_48 : decode cX6_compareKeys 48 = .ok (.aload_n 0, 1) := by decide +kernel
theorem dX6_compareKeys_49 : decode cX6_compareKeys 49 = .ok (.getfield 32, 3) := by decide +kernel
theorem dX6_compareKeys_52 : decode cX6_compareKeys 52 = .ok (.ifCond .ne 18, 3) := by decide +kernel
theorem dX6_compareKeys_55 : decode cX6_compareKeys 55 = .ok (.aload_n 2, 1) := by decide +kernel
theorem dX6_compareKeys_56 : decode cX6_compareKeys 56 = .ok (.iload 4, 2) := by decide +kernel
theorem dX6_compareKeys_58 : decode cX6_compareKeys 58 = .ok (.invokevirtual 60, 3) := by decide +kernel
theorem dX6_compareKeys_61 : decode cX6_compareKeys 61 = .ok (.bipush 32, 2) := by decide +kernel
theorem dX6_compareKeys_63 : decode cX6_compareKeys 63 = .ok (.if_icmp .ne 7, 3) := by decide +kernel
theorem dX6_compareKeys_66 : decode cX6_compareKeys 66 = .ok (.iconst 1, 1) := by decide +kernel
theorem dX6_compareKeys_67 : decode cX6_compareKeys 67 = .ok (.goto 4, 3) := by decide +kernel
theorem dX6_compareKeys_70 : decode cX6_compareKeys 70 = .ok (.iconst 0, 1) := by decide +kernel
theorem dX6_compareKeys_71 : decode cX6_compareKeys 71 = .ok (.iadd, 1) := by decide +kernel
theorem dX6_compareKeys_72 : decode cX6_compareKeys 72 = .ok (.istore 4, 2) := by decide +kernel
theorem dX6_compareKeys_74 : decode cX6_compareKeys 74 = .ok (.aload_n 0, 1) := by decide +kernel
theorem dX6_compareKeys_75 : decode cX6_compareKeys 75 = .ok (.aload_n 1, 1) := by decide +kernel
theorem dX6_compareKeys_76 : decode cX6_compareKeys 76 = .ok (.iload_n 3, 1) := by decide +kernel
theorem dX6_compareKeys_77 : decode cX6_compareKeys 77 = .ok (.invokevirtual 60, 3) := by decide +kernel
theorem dX6_compareKeys_80 : decode cX6_compareKeys 80 = .ok (.invokevirtual 64, 3) := by decide +kernel
theorem dX6_compareKeys_83 : decode cX6_compareKeys 83 = .ok (.istore 6, 2) := by decide +kernel
theorem dX6_compareKeys_85 : decode cX6_compareKeys 85 = .ok (.aload_n 0, 1) := by decide +kernel
theorem dX6_compareKeys_86 : decode cX6_compareKeys 86 = .ok (.aload_n 2, 1) := by decide +kernel
theorem dX6_compareKeys_87 : decode cX6_compareKeys 87 = .ok (.iload 4, 2) := by decide +kernel
theorem dX6_compareKeys_89 : decode cX6_compareKeys 89 = .ok (.invokevirtual 60, 3) := by decide +kernel
theorem dX6_compareKeys_92 : decode cX6_compareKeys 92 = .ok (.invokevirtual 64, 3) := by decide +kernel
theorem dX6_compareKeys_95 : decode cX6_compareKeys 95 = .ok (.istore 7, 2) := by decide +kernel
theorem dX6_compareKeys_97 : decode cX6_compareKeys 97 = .ok (.iload 6, 2) := by decide +kernel
theorem dX6_compareKeys_99 : decode cX6_compareKeys 99 = .ok (.iload 7, 2) := by decide +kernel
theorem dX6_compareKeys_101 : decode cX6_compareKeys 101 = .ok (.if_icmp .eq 16, 3) := by decide +kernel
theorem dX6_compareKeys_104 : decode cX6_compareKeys 104 = .ok (.iload 6, 2) := by decide +kernel
theorem dX6_compareKeys_106 : decode cX6_compareKeys 106 = .ok (.iload 7, 2) := by decide +kernel
theorem dX6_compareKeys_108 : decode cX6_compareKeys 108 = .ok (.if_icmp .ge 7, 3) := by decide +kernel
theorem dX6_compareKeys_111 : decode cX6_compareKeys 111 = .ok (.iconst (-1), 1) := by decide +kernel
theorem dX6_compareKeys_112 : decode cX6_compareKeys 112 = .ok (.goto 4, 3) := by decide +kernel
theorem dX6_compareKeys_115 : decode cX6_compareKeys 115 = .ok (.iconst 1, 1) := by decide +kernel
theorem dX6_compareKeys_116 : decode cX6_compareKeys 116 = .ok (.ireturn, 1) := by decide +kernel
theorem dX6_compareKeys_117 : decode cX6_compareKeys 117 = .ok (.iinc 3 1, 3) := by decide +kernel
theorem dX6_compareKeys_120 : decode cX6_compareKeys 120 = .ok (.iinc 4 1, 3) := by decide +kernel
theorem dX6_compareKeys_123 : decode cX6_compareKeys 123 = .ok (.iinc 5 1, 3) := by decide +kernel
theorem dX6_compareKeys_126 : decode cX6_compareKeys 126 = .ok (.goto (-112), 3) := by decide +kernel
theorem dX6_compareKeys_129 : decode cX6_compareKeys 129 = .ok (.iconst 0, 1) := by decide +kernel
theorem dX6_compareKeys_130 : decode cX6_compareKeys 130 = .ok (.ireturn, 1) := by decide +kernel
theorem dX6_rank_0 : decode cX6_rank 0 = .ok (.iload_n 1, 1) := by decide +kernel
theorem dX6_rank_1 : decode cX6_rank 1 = .ok (.ifCond .ne 5, 3) := by decide +kernel
theorem dX6_rank_4 : decode cX6_rank 4 = .ok (.iconst (-1), 1) := by decide +kernel
theorem dX6_rank_5 : decode cX6_rank 5 = .ok (.ireturn, 1) := by decide +kernel
theorem dX6_rank_6 : decode cX6_rank 6 = .ok (.iload_n 1, 1) := by decide +kernel
theorem dX6_rank_7 : decode cX6_rank 7 = .ok (.bipush 32, 2) := by decide +kernel
theorem dX6_rank_9 : decode cX6_rank 9 = .ok (.if_icmp .ne 5, 3) := by decide +kernel
theorem dX6_rank_12 : decode cX6_rank 12 = .ok (.iconst 0, 1) := by decide +kernel
theorem dX6_rank_13 : decode cX6_rank 13 = .ok (.ireturn, 1) := by decide +kernel
theorem dX6_rank_14 : decode cX6_rank 14 = .ok (.iload_n 1, 1) := by decide +kernel
theorem dX6_rank_15 : decode cX6_rank 15 = .ok (.bipush 57, 2) := by decide +kernel
theorem dX6_rank_17 : decode cX6_rank 17 = .ok (.if_icmp .gt 22, 3) := by decide +kernel
theorem dX6_rank_20 : decode cX6_rank 20 = .ok (.aload_n 0, 1) := by decide +kernel
theorem dX6_rank_21 : decode cX6_rank 21 = .ok (.getfield 35, 3) := by decide +kernel
theorem dX6_rank_24 : decode cX6_rank 24 = .ok (.ifCond .eq 7, 3) := by decide +kernel
theorem dX6_rank_27 : decode cX6_rank 27 = .ok (.iconst 1, 1) := by decide +kernel
theorem dX6_rank_28 : decode cX6_rank 28 = .ok (.goto 5, 3) := by decide +kernel
theorem dX6_rank_31 : decode cX6_rank 31 = .ok (.bipush 100, 2) := by decide +kernel
theorem dX6_rank_33 : decode cX6_rank 33 = .ok (.iload_n 1, 1) := by decide +kernel
theorem dX6_rank_34 : decode cX6_rank 34 = .ok (.iadd, 1) := by decide +kernel
theorem dX6_rank_35 : decode cX6_rank 35 = .ok (.bipush 48, 2) := by decide +kernel
theorem dX6_rank_37 : decode cX6_rank 37 = .ok (.isub, 1) := by decide +kernel
theorem dX6_rank_38 : decode cX6_rank 38 = .ok (.ireturn, 1) := by decide +kernel
theorem dX6_rank_39 : decode cX6_rank 39 = .ok (.bipush 50, 2) := by decide +kernel
theorem dX6_rank_41 : decode cX6_rank 41 = .ok (.iload_n 1, 1) := by decide +kernel
theorem dX6_rank_42 : decode cX6_rank 42 = .ok (.iadd, 1) := by decide +kernel
theorem dX6_rank_43 : decode cX6_rank 43 = .ok (.bipush 97, 2) := by decide +kernel
theorem dX6_rank_45 : decode cX6_rank 45 = .ok (.isub, 1) := by decide +kernel
theorem dX6_rank_46 : decode cX6_rank 46 = .ok (.ireturn, 1) := by decide +kernel
theorem dX7_init_0 : decode cX7_init 0 = .ok (.aload_n 0, 1) := by decide +kernel
theorem dX7_init_1 : decode cX7_init 1 = .ok (.invokespecial 3, 3) := by decide +kernel
theorem dX7_init_4 : decode cX7_init 4 = .ok (.aload_n 0, 1) := by decide +kernel
theorem dX7_init_5 : decode cX7_init 5 = .ok (.sipush 600, 3) := by decide +kernel
theorem dX7_init_8 : decode cX7_init 8 = .ok (.newarray .byte, 2) := by decide +kernel
theorem dX7_init_10 : decode cX7_init 10 = .ok (.putfield 11, 3) := by decide +kernel
theorem dX7_init_13 : decode cX7_init 13 = .ok (.aload_n 0, 1) := by decide +kernel
theorem dX7_init_14 : decode cX7_init 14 = .ok (.sipush 601, 3) := by decide +kernel
theorem dX7_init_17 : decode cX7_init 17 = .ok (.newarray .int, 2) := by decide +kernel
theorem dX7_init_19 : decode cX7_init 19 = .ok (.putfield 15, 3) := by decide +kernel
theorem dX7_init_22 : decode cX7_init 22 = .ok (.aload_n 0, 1) := by decide +kernel
theorem dX7_init_23 : decode cX7_init 23 = .ok (.sipush 601, 3) := by decide +kernel
theorem dX7_init_26 : decode cX7_init 26 = .ok (.newarray .int, 2) := by decide +kernel
theorem dX7_init_28 : decode cX7_init 28 = .ok (.putfield 19, 3) := by decide +kernel
theorem dX7_init_31 : decode cX7_init 31 = .ok (.aload_n 0, 1) := by decide +kernel
theorem dX7_init_32 : decode cX7_init 32 = .ok (.sipush 601, 3) := by decide +kernel
theorem dX7_init_35 : decode cX7_init 35 = .ok (.newarray .int, 2) := by decide +kernel
theorem dX7_init_37 : decode cX7_init 37 = .ok (.putfield 22, 3) := by decide +kernel
theorem dX7_init_40 : decode cX7_init 40 = .ok (.aload_n 0, 1) := by decide +kernel
theorem dX7_init_41 : decode cX7_init 41 = .ok (.sipush 601, 3) := by decide +kernel
theorem dX7_init_44 : decode cX7_init 44 = .ok (.newarray .int, 2) := by decide +kernel
theorem dX7_init_46 : decode cX7_init 46 = .ok (.putfield 25, 3) := by decide +kernel
theorem dX7_init_49 : decode cX7_init 49 = .ok (.aload_n 0, 1) := by decide +kernel
theorem dX7_init_50 : decode cX7_init 50 = .ok (.sipush 600, 3) := by decide +kernel
theorem dX7_init_53 : decode cX7_init 53 = .ok (.newarray .int, 2) := by decide +kernel
theorem dX7_init_55 : decode cX7_init 55 = .ok (.putfield 28, 3) := by decide +kernel
theorem dX7_init_58 : decode cX7_init 58 = .ok (.aload_n 0, 1) := by decide +kernel
theorem dX7_init_59 : decode cX7_init 59 = .ok (.bipush 14, 2) := by decide +kernel
theorem dX7_init_61 : decode cX7_init 61 = .ok (.newarray .int, 2) := by decide +kernel
theorem dX7_init_63 : decode cX7_init 63 = .ok (.putfield 33, 3) := by decide +kernel
theorem dX7_init_66 : decode cX7_init 66 = .ok (.aload_n 0, 1) := by decide +kernel
theorem dX7_init_67 : decode cX7_init 67 = .ok (.bipush 14, 2) := by decide +kernel
theorem dX7_init_69 : decode cX7_init 69 = .ok (.newarray .int, 2) := by decide +kernel
theorem dX7_init_71 : decode cX7_init 71 = .ok (.putfield 36, 3) := by decide +kernel
theorem dX7_init_74 : decode cX7_init 74 = .ok (.aload_n 0, 1) := by decide +kernel
theorem dX7_init_75 : decode cX7_init 75 = .ok (.iconst 4, 1) := by decide +kernel
theorem dX7_init_76 : decode cX7_init 76 = .ok (.newarray .long, 2) := by decide +kernel
theorem dX7_init_78 : decode cX7_init 78 = .ok (.putfield 39, 3) := by decide +kernel
theorem dX7_init_81 : decode cX7_init 81 = .ok (.return_, 1) := by decide +kernel
theorem dX7_append_0 : decode cX7_append 0 = .ok (.bipush 24, 2) := by decide +kernel
theorem dX7_append_2 : decode cX7_append 2 = .ok (.istore_n 2, 1) := by decide +kernel
theorem dX7_append_3 : decode cX7_append 3 = .ok (.iload_n 2, 1) := by decide +kernel
theorem dX7_append_4 : decode cX7_append 4 = .ok (.ifCond .lt 49, 3) := by decide +kernel
theorem dX7_append_7 : decode cX7_append 7 = .ok (.aload_n 0, 1) := by decide +kernel
theorem dX7_append_8 : decode cX7_append 8 = .ok (.getfield 43, 3) := by decide +kernel
theorem dX7_append_11 : decode cX7_append 11 = .ok (.ifCond .lt 36, 3) := by decide +kernel
theorem dX7_append_14 : decode cX7_append 14 = .ok (.aload_n 0, 1) := by decide +kernel
theorem dX7_append_15 : decode cX7_append 15 = .ok (.getfield 43, 3) := by decide +kernel
theorem dX7_append_18 : decode cX7_append 18 = .ok (.sipush 600, 3) := by decide +kernel
theorem dX7_append_21 : decode cX7_append 21 = .ok (.if_icmp .ge 26, 3) := by decide +kernel
theorem dX7_append_24 : decode cX7_append 24 = .ok (.aload_n 0, 1) := by decide +kernel
theorem dX7_append_25 : decode cX7_append 25 = .ok (.getfield 11, 3) := by decide +kernel
theorem dX7_append_28 : decode cX7_append 28 = .ok (.aload_n 0, 1) := by decide +kernel
theorem dX7_append_29 : decode cX7_append 29 = .ok (.getfield 43, 3) := by decide +kernel
theorem dX7_append_32 : decode cX7_append 32 = .ok (.iload_n 1, 1) := by decide +kernel
theorem dX7_append_33 : decode cX7_append 33 = .ok (.iload_n 2, 1) := by decide +kernel
theorem dX7_append_34 : decode cX7_append 34 = .ok (.iushr, 1) := by decide +kernel
theorem dX7_append_35 : decode cX7_append 35 = .ok (.i2b, 1) := by decide +kernel
theorem dX7_append_36 : decode cX7_append 36 = .ok (.bastore, 1) := by decide +kernel
theorem dX7_append_37 : decode cX7_append 37 = .ok (.aload_n 0, 1) := by decide +kernel
theorem dX7_append_38 : decode cX7_append 38 = .ok (.dup, 1) := by decide +kernel
theorem dX7_append_39 : decode cX7_append 39 = .ok (.getfield 43, 3) := by decide +kernel
theorem dX7_append_42 : decode cX7_append 42 = .ok (.iconst 1, 1) := by decide +kernel
theorem dX7_append_43 : decode cX7_append 43 = .ok (.iadd, 1) := by decide +kernel
theorem dX7_append_44 : decode cX7_append 44 = .ok (.putfield 43, 3) := by decide +kernel
theorem dX7_append_47 : decode cX7_append 47 = .ok (.iinc 2 (-8), 3) := by decide +kernel
theorem dX7_append_50 : decode cX7_append 50 = .ok (.goto (-47), 3) := by decide +kernel
theorem dX7_append_53 : decode cX7_append 53 = .ok (.return_, 1) := by decide +kernel
theorem dX7_parse_0 : decode cX7_parse 0 = .ok (.aload_n 0, 1) := by decide +kernel
theorem dX7_parse_1 : decode cX7_parse 1 = .ok (.invokevirtual 47, 3) := by decide +kernel
theorem dX7_parse_4 : decode cX7_parse 4 = .ok (.aload_n 0, 1) := by decide +kernel
theorem dX7_parse_5 : decode cX7_parse 5 = .ok (.iconst (-1), 1) := by decide +kernel
theorem dX7_parse_6 : decode cX7_parse 6 = .ok (.putfield 50, 3) := by decide +kernel
theorem dX7_parse_9 : decode cX7_parse 9 = .ok (.aload_n 0, 1) := by decide +kernel
theorem dX7_parse_10 : decode cX7_parse 10 = .ok (.iconst 0, 1) := by decide +kernel
theorem dX7_parse_11 : decode cX7_parse 11 = .ok (.putfield 53, 3) := by decide +kernel
theorem dX7_parse_14 : decode cX7_parse 14 = .ok (.aload_n 0, 1) := by decide +kernel
theorem dX7_parse_15 : decode cX7_parse 15 = .ok (.iconst 0, 1) := by decide +kernel
theorem dX7_parse_16 : decode cX7_parse 16 = .ok (.putfield 56, 3) := by decide +kernel
theorem dX7_parse_19 : decode cX7_parse 19 = .ok (.aload_n 0, 1) := by decide +kernel
theorem dX7_parse_20 : decode cX7_parse 20 = .ok (.iconst 0, 1) := by decide +kernel
theorem dX7_parse_21 : decode cX7_parse 21 = .ok (.putfield 59, 3) := by decide +kernel
theorem dX7_parse_24 : decode cX7_parse 24 = .ok (.aload_n 0, 1) := by decide +kernel
theorem dX7_parse_25 : decode cX7_parse 25 = .ok (.getfield 33, 3) := by decide +kernel
theorem dX7_parse_28 : decode cX7_parse 28 = .ok (.iconst (-1), 1) := by decide +kernel
theorem dX7_parse_29 : decode cX7_parse 29 = .ok (.invokestatic 62, 3) := by decide +kernel
theorem dX7_parse_32 : decode cX7_parse 32 = .ok (.iconst 0, 1) := by decide +kernel
theorem dX7_parse_33 : decode cX7_parse 33 = .ok (.istore_n 1, 1) := by decide +kernel
theorem dX7_parse_34 : decode cX7_parse 34 = .ok (.iload_n 1, 1) := by decide +kernel
theorem dX7_parse_35 : decode cX7_parse 35 = .ok (.aload_n 0, 1) := by decide +kernel
theorem dX7_parse_36 : decode cX7_parse 36 = .ok (.getfield 43, 3) := by decide +kernel
theorem dX7_parse_39 : decode cX7_parse 39 = .ok (.if_icmp .gt 28, 3) := by decide +kernel
theorem dX7_parse_42 : decode cX7_parse 42 = .ok (.aload_n 0, 1) := by decide +kernel
theorem dX7_parse_43 : decode cX7_parse 43 = .ok (.getfield 50, 3) := by decide +kernel
theorem dX7_parse_46 : decode cX7_parse 46 = .ok (.iconst (-1), 1) := by decide +kernel
theorem dX7_parse_47 : decode cX7_parse 47 = .ok (.if_icmp .ne 20, 3) := by decide +kernel
theorem dX7_parse_50 : decode cX7_parse 50 = .ok (.aload_n 0, 1) := by decide +kernel
theorem dX7_parse_51 : decode cX7_parse 51 = .ok (.invokevirtual 68, 3) := by decide +kernel
theorem dX7_parse_54 : decode cX7_parse 54 = .ok (.ifCond .eq 13, 3) := by decide +kernel
theorem dX7_parse_57 : decode cX7_parse 57 = .ok (.aload_n 0, 1) := by decide +kernel
theorem dX7_parse_58 : decode cX7_parse 58 = .ok (.invokevirtual 72, 3) := by decide +kernel
theorem dX7_parse_61 : decode cX7_parse 61 = .ok (.iinc 1 1, 3) := by decide +kernel
theorem dX7_parse_64 : decode cX7_parse 64 = .ok (.goto (-30), 3) := by decide +kernel
theorem dX7_parse_67 : decode cX7_parse 67 = .ok (.aload_n 0, 1) := by decide +kernel
theorem dX7_parse_68 : decode cX7_parse 68 = .ok (.getfield 50, 3) := by decide +kernel
theorem dX7_parse_71 : decode cX7_parse 71 = .ok (.ireturn, 1) := by decide +kernel
theorem dX7_compiled_0 : decode cX7_compiled 0 = .ok (.new 31, 3) := by decide +kernel
theorem dX7_compiled_3 : decode cX7_compiled 3 = .ok (.dup, 1) := by decide +kernel
theorem dX7_compiled_4 : decode cX7_compiled 4 = .ok (.invokespecial 75, 3) := by decide +kernel
theorem dX7_compiled_7 : decode cX7_compiled 7 = .ok (.astore_n 1, 1) := by decide +kernel
theorem dX7_compiled_8 : decode cX7_compiled 8 = .ok (.aload_n 1, 1) := by decide +kernel
theorem dX7_compiled_9 : decode cX7_compiled 9 = .ok (.aload_n 0, 1) := by decide +kernel
theorem dX7_compiled_10 : decode cX7_compiled 10 = .ok (.getfield 28, 3) := by decide +kernel
theorem dX7_compiled_13 : decode cX7_compiled 13 = .ok (.iconst 0, 1) := by decide +kernel
theorem dX7_compiled_14 : decode cX7_compiled 14 = .ok (.aload_n 0, 1) := by decide +kernel
theorem dX7_compiled_15 : decode cX7_compiled 15 = .ok (.getfield 56, 3) := by decide +kernel
theorem dX7_compiled_18 : decode cX7_compiled 18 = .ok (.invokestatic 76, 3) := by decide +kernel
theorem dX7_compiled_21 : decode cX7_compiled 21 = .ok (.invokestatic 82, 3) := by decide +kernel
theorem dX7_compiled_24 : decode cX7_compiled 24 = .ok (.putfield 86, 3) := by decide +kernel
theorem dX7_compiled_27 : decode cX7_compiled 27 = .ok (.aload_n 1, 1) := by decide +kernel
theorem dX7_compiled_28 : decode cX7_compiled 28 = .ok (.aload_n 0, 1) := by decide +kernel
theorem dX7_compiled_29 : decode cX7_compiled 29 = .ok (.getfield 33, 3) := by decide +kernel
theorem dX7_compiled_32 : decode cX7_compiled 32 = .ok (.invokevirtual 87, 3) := by decide +kernel
theorem dX7_compiled_35 : decode cX7_compiled 35 = .ok (.checkcast 88, 3) := by decide +kernel
theorem dX7_compiled_38 : decode cX7_compiled 38 = .ok (.putfield 92, 3) := by decide +kernel
theorem dX7_compiled_41 : decode cX7_compiled 41 = .ok (.aload_n 1, 1) := by decide +kernel
theorem dX7_compiled_42 : decode cX7_compiled 42 = .ok (.aload_n 0, 1) := by decide +kernel
theorem dX7_compiled_43 : decode cX7_compiled 43 = .ok (.getfield 36, 3) := by decide +kernel
theorem dX7_compiled_46 : decode cX7_compiled 46 = .ok (.invokevirtual 87, 3) := by decide +kernel
theorem dX7_compiled_49 : decode cX7_compiled 49 = .ok (.checkcast 88, 3) := by decide +kernel
theorem dX7_compiled_52 : decode cX7_compiled 52 = .ok (.putfield 93, 3) := by decide +kernel
theorem dX7_compiled_55 : decode cX7_compiled 55 = .ok (.aload_n 1, 1) := by decide +kernel
theorem dX7_compiled_56 : decode cX7_compiled 56 = .ok (.aload_n 0, 1) := by decide +kernel
theorem dX7_compiled_57 : decode cX7_compiled 57 = .ok (.getfield 39, 3) := by decide +kernel
theorem dX7_compiled_60 : decode cX7_compiled 60 = .ok (.iconst 0, 1) := by decide +kernel
theorem dX7_compiled_61 : decode cX7_compiled 61 = .ok (.aload_n 0, 1) := by decide +kernel
theorem dX7_compiled_62 : decode cX7_compiled 62 = .ok (.getfield 59, 3) := by decide +kernel
theorem dX7_compiled_65 : decode cX7_compiled 65 = .ok (.invokestatic 76, 3) := by decide +kernel
theorem dX7_compiled_68 : decode cX7_compiled 68 = .ok (.invokestatic 94, 3) := by decide +kernel
theorem dX7_compiled_71 : decode cX7_compiled 71 = .ok (.putfield 97, 3) := by decide +kernel
theorem dX7_compiled_74 : decode cX7_compiled 74 = .ok (.aload_n 1, 1) := by decide +kernel
theorem dX7_compiled_75 : decode cX7_compiled 75 = .ok (.areturn, 1) := by decide +kernel
theorem dX7_byteAt_0 : decode cX7_byteAt 0 = .ok (.iload_n 1, 1) := by decide +kernel
theorem dX7_byteAt_1 : decode cX7_byteAt 1 = .ok (.ifCond .lt 31, 3) := by decide +kernel
theorem dX7_byteAt_4 : decode cX7_byteAt 4 = .ok (.iload_n 1, 1) := by decide +kernel
theorem dX7_byteAt_5 : decode cX7_byteAt 5 = .ok (.aload_n 0, 1) := by decide +kernel
theorem dX7_byteAt_6 : decode cX7_byteAt 6 = .ok (.getfield 43, 3) := by decide +kernel
theorem dX7_byteAt_9 : decode cX7_byteAt 9 = .ok (.if_icmp .ge 23, 3) := by decide +kernel
theorem dX7_byteAt_12 : decode cX7_byteAt 12 = .ok (.iload_n 1, 1) := by decide +kernel
theorem dX7_byteAt_13 : decode cX7_byteAt 13 = .ok (.sipush 600, 3) := by decide +kernel
theorem dX7_byteAt_16 : decode cX7_byteAt 16 = .ok (.if_icmp .ge 16, 3) := by decide +kernel
theorem dX7_byteAt_19 : decode cX7_byteAt 19 = .ok (.aload_n 0, 1) := by decide +kernel
theorem dX7_byteAt_20 : decode cX7_byteAt 20 = .ok (.getfield 11, 3) := by decide +kernel
theorem dX7_byteAt_23 : decode cX7_byteAt 23 = .ok (.iload_n 1, 1) := by decide +kernel
theorem dX7_byteAt_24 : decode cX7_byteAt 24 = .ok (.baload, 1) := by decide +kernel
theorem dX7_byteAt_25 : decode cX7_byteAt 25 = .ok (.sipush 255, 3) := by decide +kernel
theorem dX7_byteAt_28 : decode cX7_byteAt 28 = .ok (.iand, 1) := by decide +kernel
theorem dX7_byteAt_29 : decode cX7_byteAt 29 = .ok (.goto 4, 3) := by decide +kernel
theorem dX7_byteAt_32 : decode cX7_byteAt 32 = .ok (.iconst 0, 1) := by decide +kernel
theorem dX7_byteAt_33 : decode cX7_byteAt 33 = .ok (.ireturn, 1) := by decide +kernel
theorem dX7_isLetter_0 : decode cX7_isLetter 0 = .ok (.iload_n 0, 1) := by decide +kernel
theorem dX7_isLetter_1 : decode cX7_isLetter 1 = .ok (.bipush 97, 2) := by decide +kernel
theorem dX7_isLetter_3 : decode cX7_isLetter 3 = .ok (.if_icmp .lt 13, 3) := by decide +kernel
theorem dX7_isLetter_6 : decode cX7_isLetter 6 = .ok (.iload_n 0, 1) := by decide +kernel
theorem dX7_isLetter_7 : decode cX7_isLetter 7 = .ok (.bipush 122, 2) := by decide +kernel
theorem dX7_isLetter_9 : decode cX7_isLetter 9 = .ok (.if_icmp .gt 7, 3) := by decide +kernel
theorem dX7_isLetter_12 : decode cX7_isLetter 12 = .ok (.iconst 1, 1) := by decide +kernel
theorem dX7_isLetter_13 : decode cX7_isLetter 13 = .ok (.goto 4, 3) := by decide +kernel
theorem dX7_isLetter_16 : decode cX7_isLetter 16 = .ok (.iconst 0, 1) := by decide +kernel
theorem dX7_isLetter_17 : decode cX7_isLetter 17 = .ok (.ireturn, 1) := by decide +kernel
theorem dX7_isSign_0 : decode cX7_isSign 0 = .ok (.iload_n 0, 1) := by decide +kernel
theorem dX7_isSign_1 : decode cX7_isSign 1 = .ok (.ifCond .le 17, 3) := by decide +kernel
theorem dX7_isSign_4 : decode cX7_isSign 4 = .ok (.ldc 98, 2) := by decide +kernel
theorem dX7_isSign_6 : decode cX7_isSign 6 = .ok (.iload_n 0, 1) := by decide +kernel
theorem dX7_isSign_7 : decode cX7_isSign 7 = .ok (.i2c, 1) := by decide +kernel
theorem dX7_isSign_8 : decode cX7_isSign 8 = .ok (.invokevirtual 100, 3) := by decide +kernel
theorem dX7_isSign_11 : decode cX7_isSign 11 = .ok (.ifCond .lt 7, 3) := by decide +kernel
theorem dX7_isSign_14 : decode cX7_isSign 14 = .ok (.iconst 1, 1) := by decide +kernel
theorem dX7_isSign_15 : decode cX7_isSign 15 = .ok (.goto 4, 3) := by decide +kernel
theorem dX7_isSign_18 : decode cX7_isSign 18 = .ok (.iconst 0, 1) := by decide +kernel
theorem dX7_isSign_19 : decode cX7_isSign 19 = .ok (.ireturn, 1) := by decide +kernel
theorem dX7_scan_0 : decode cX7_scan 0 = .ok (.aload_n 0, 1) := by decide +kernel
theorem dX7_scan_1 : decode cX7_scan 1 = .ok (.iconst 0, 1) := by decide +kernel
theorem dX7_scan_2 : decode cX7_scan 2 = .ok (.putfield 106, 3) := by decide +kernel
theorem dX7_scan_5 : decode cX7_scan 5 = .ok (.iconst 0, 1) := by decide +kernel
theorem dX7_scan_6 : decode cX7_scan 6 = .ok (.istore_n 1, 1) := by decide +kernel
theorem dX7_scan_7 : decode cX7_scan 7 = .ok (.iconst 1, 1) := by decide +kernel
theorem dX7_scan_8 : decode cX7_scan 8 = .ok (.istore_n 2, 1) := by decide +kernel
theorem dX7_scan_9 : decode cX7_scan 9 = .ok (.iconst 0, 1) := by decide +kernel
theorem dX7_scan_10 : decode cX7_scan 10 = .ok (.istore_n 3, 1) := by decide +kernel
theorem dX7_scan_11 : decode cX7_scan 11 = .ok (.iload_n 3, 1) := by decide +kernel
theorem dX7_scan_12 : decode cX7_scan 12 = .ok (.aload_n 0, 1) := by decide +kernel
theorem dX7_scan_13 : decode cX7_scan 13 = .ok (.getfield 43, 3) := by decide +kernel
theorem dX7_scan_16 : decode cX7_scan 16 = .ok (.if_icmp .gt 77, 3) := by decide +kernel
theorem dX7_scan_19 : decode cX7_scan 19 = .ok (.iload_n 2, 1) := by decide +kernel
theorem dX7_scan_20 : decode cX7_scan 20 = .ok (.ifCond .eq 73, 3) := by decide +kernel
theorem dX7_scan_23 : decode cX7_scan 23 = .ok (.iload_n 2, 1) := by decide +kernel
theorem dX7_scan_24 : decode cX7_scan 24 = .ok (.iconst 3, 1) := by decide +kernel
theorem dX7_scan_25 : decode cX7_scan 25 = .ok (.if_icmp .eq 68, 3) := by decide +kernel
theorem dX7_scan_28 : decode cX7_scan 28 = .ok (.iload_n 1, 1) := by decide +kernel
theorem dX7_scan_29 : decode cX7_scan 29 = .ok (.aload_n 0, 1) := by decide +kernel
theorem dX7_scan_30 : decode cX7_scan 30 = .ok (.getfield 43, 3) := by decide +kernel
theorem dX7_scan_33 : decode cX7_scan 33 = .ok (.if_icmp .ge 29, 3) := by decide +kernel
theorem dX7_scan_36 : decode cX7_scan 36 = .ok (.aload_n 0, 1) := by decide +kernel
theorem dX7_scan_37 : decode cX7_scan 37 = .ok (.iload_n 1, 1) := by decide +kernel
theorem dX7_scan_38 : decode cX7_scan 38 = .ok (.invokevirtual 109, 3) := by decide +kernel
theorem dX7_scan_41 : decode cX7_scan 41 = .ok (.bipush 32, 2) := by decide +kernel
theorem dX7_scan_43 : decode cX7_scan 43 = .ok (.if_icmp .eq 13, 3) := by decide +kernel
theorem dX7_scan_46 : decode cX7_scan 46 = .ok (.aload_n 0, 1) := by decide +kernel
theorem dX7_scan_47 : decode cX7_scan 47 = .ok (.iload_n 1, 1) := by decide +kernel
theorem dX7_scan_48 : decode cX7_scan 48 = .ok (.invokevirtual 109, 3) := by decide +kernel
theorem dX7_scan_51 : decode cX7_scan 51 = .ok (.bipush 10, 2) := by decide +kernel
theorem dX7_scan_53 : decode cX7_scan 53 = .ok (.if_icmp .ne 9, 3) := by decide +kernel
theorem dX7_scan_56 : decode cX7_scan 56 = .ok (.iinc 1 1, 3) := by decide +kernel
theorem dX7_scan_59 : decode cX7_scan 59 = .ok (.goto (-31), 3) := by decide +kernel
theorem dX7_scan_62 : decode cX7_scan 62 = .ok (.aload_n 0, 1) := by decide +kernel
theorem dX7_scan_63 : decode cX7_scan 63 = .ok (.iload_n 1, 1) := by decide +kernel
theorem dX7_scan_64 : decode cX7_scan 64 = .ok (.invokevirtual 112, 3) := by decide +kernel
theorem dX7_scan_67 : decode cX7_scan 67 = .ok (.istore_n 2, 1) := by decide +kernel
theorem dX7_scan_68 : decode cX7_scan 68 = .ok (.aload_n 0, 1) := by decide +kernel
theorem dX7_scan_69 : decode cX7_scan 69 = .ok (.iload_n 1, 1) := by decide +kernel
theorem dX7_scan_70 : decode cX7_scan 70 = .ok (.iload_n 2, 1) := by decide +kernel
theorem dX7_scan_71 : decode cX7_scan 71 = .ok (.invokevirtual 115, 3) := by decide +kernel
theorem dX7_scan_74 : decode cX7_scan 74 = .ok (.istore 4, 2) := by decide +kernel
theorem dX7_scan_76 : decode cX7_scan 76 = .ok (.aload_n 0, 1) := by decide +kernel
theorem dX7_scan_77 : decode cX7_scan 77 = .ok (.iload_n 2, 1) := by decide +kernel
theorem dX7_scan_78 : decode cX7_scan 78 = .ok (.iload_n 1, 1) := by decide +kernel
theorem dX7_scan_79 : decode cX7_scan 79 = .ok (.iload 4, 2) := by decide +kernel
theorem dX7_scan_81 : decode cX7_scan 81 = .ok (.invokevirtual 118, 3) := by decide +kernel
theorem dX7_scan_84 : decode cX7_scan 84 = .ok (.iload 4, 2) := by decide +kernel
theorem dX7_scan_86 : decode cX7_scan 86 = .ok (.istore_n 1, 1) := by decide +kernel
theorem dX7_scan_87 : decode cX7_scan 87 = .ok (.iinc 3 1, 3) := by decide +kernel
theorem dX7_scan_90 : decode cX7_scan 90 = .ok (.goto (-79), 3) := by decide +kernel
theorem dX7_scan_93 : decode cX7_scan 93 = .ok (.return_, 1) := by decide +kernel
theorem dX7_kindAt_0 : decode cX7_kindAt 0 = .ok (.aload_n 0, 1) := by decide +kernel
theorem dX7_kindAt_1 : decode cX7_kindAt 1 = .ok (.iload_n 1, 1) := by decide +kernel
theorem dX7_kindAt_2 : decode cX7_kindAt 2 = .ok (.invokevirtual 109, 3) := by decide +kernel
theorem dX7_kindAt_5 : decode cX7_kindAt 5 = .ok (.istore_n 2, 1) := by decide +kernel
theorem dX7_kindAt_6 : decode cX7_kindAt 6 = .ok (.iload_n 1, 1) := by decide +kernel
theorem dX7_kindAt_7 : decode cX7_kindAt 7 = .ok (.aload_n 0, 1) := by decide +kernel
theorem dX7_kindAt_8 : decode cX7_kindAt 8 = .ok (.getfield 43, 3) := by decide +kernel
theorem dX7_kindAt_11 : decode cX7_kindAt 11 = .ok (.if_icmp .lt 5, 3) := by decide +kernel
theorem dX7_kindAt_14 : decode cX7_kindAt 14 = .ok (.iconst 0, 1) := by decide +kernel
theorem dX7_kindAt_15 : decode cX7_kindAt 15 = .ok (.ireturn, 1) := by decide +kernel
theorem dX7_kindAt_16 : decode cX7_kindAt 16 = .ok (.iload_n 2, 1) := by decide +kernel
theorem dX7_kindAt_17 : decode cX7_kindAt 17 = .ok (.invokestatic 122, 3) := by decide +kernel
theorem dX7_kindAt_20 : decode cX7_kindAt 20 = .ok (.ifCond .eq 5, 3) := by decide +kernel
theorem dX7_kindAt_23 : decode cX7_kindAt 23 = .ok (.iconst 1, 1) := by decide +kernel
theorem dX7_kindAt_24 : decode cX7_kindAt 24 = .ok (.ireturn, 1) := by decide +kernel
theorem dX7_kindAt_25 : decode cX7_kindAt 25 = .ok (.iload_n 2, 1) := by decide +kernel
theorem dX7_kindAt_26 : decode cX7_kindAt 26 = .ok (.invokestatic 126, 3) := by decide +kernel
theorem dX7_kindAt_29 : decode cX7_kindAt 29 = .ok (.ifCond .eq 5, 3) := by decide +kernel
theorem dX7_kindAt_32 : decode cX7_kindAt 32 = .ok (.iconst 2, 1) := by decide +kernel
theorem dX7_kindAt_33 : decode cX7_kindAt 33 = .ok (.ireturn, 1) := by decide +kernel
theorem dX7_kindAt_34 : decode cX7_kindAt 34 = .ok (.iload_n 2, 1) := by decide +kernel
theorem dX7_kindAt_35 : decode cX7_kindAt 35 = .ok (.invokestatic 131, 3) := by decide +kernel
theorem dX7_kindAt_38 : decode cX7_kindAt 38 = .ok (.ifCond .eq 7, 3) := by decide +kernel
theorem dX7_kindAt_41 : decode cX7_kindAt 41 = .ok (.iload_n 2, 1) := by decide +kernel
theorem dX7_kindAt_42 : decode cX7_kindAt 42 = .ok (.goto 4, 3) := by decide +kernel
theorem dX7_kindAt_45 : decode cX7_kindAt 45 = .ok (.iconst 3, 1) := by decide +kernel
theorem dX7_kindAt_46 : decode cX7_kindAt 46 = .ok (.ireturn, 1) := by decide +kernel
theorem dX7_stopAt_0 : decode cX7_stopAt 0 = .ok (.iload_n 1, 1) := by decide +kernel
theorem dX7_stopAt_1 : decode cX7_stopAt 1 = .ok (.iconst 1, 1) := by decide +kernel
theorem dX7_stopAt_2 : decode cX7_stopAt 2 = .ok (.iadd, 1) := by decide +kernel
theorem dX7_stopAt_3 : decode cX7_stopAt 3 = .ok (.istore_n 3, 1) := by decide +kernel
theorem dX7_stopAt_4 : decode cX7_stopAt 4 = .ok (.iload_n 3, 1) := by decide +kernel
theorem dX7_stopAt_5 : decode cX7_stopAt 5 = .ok (.aload_n 0, 1) := by decide +kernel
theorem dX7_stopAt_6 : decode cX7_stopAt 6 = .ok (.getfield 43, 3) := by decide +kernel
theorem dX7_stopAt_9 : decode cX7_stopAt 9 = .ok (.if_icmp .ge 25, 3) := by decide +kernel
theorem dX7_stopAt_12 : decode cX7_stopAt 12 = .ok (.iload_n 2, 1) := by decide +kernel
theorem dX7_stopAt_13 : decode cX7_stopAt 13 = .ok (.iconst 1, 1) := by decide +kernel
theorem dX7_stopAt_14 : decode cX7_stopAt 14 = .ok (.if_icmp .ne 20, 3) := by decide +kernel
theorem dX7_stopAt_17 : decode cX7_stopAt 17 = .ok (.aload_n 0, 1) := by decide +kernel
theorem dX7_stopAt_18 : decode cX7_stopAt 18 = .ok (.iload_n 3, 1) := by decide +kernel
theorem dX7_stopAt_19 : decode cX7_stopAt 19 = .ok (.invokevirtual 109, 3) := by decide +kernel
theorem dX7_stopAt_22 : decode cX7_stopAt 22 = .ok (.invokestatic 122, 3) := by decide +kernel
theorem dX7_stopAt_25 : decode cX7_stopAt 25 = .ok (.ifCond .eq 9, 3) := by decide +kernel
theorem dX7_stopAt_28 : decode cX7_stopAt 28 = .ok (.iinc 3 1, 3) := by decide +kernel
theorem dX7_stopAt_31 : decode cX7_stopAt 31 = .ok (.goto (-27), 3) := by decide +kernel
theorem dX7_stopAt_34 : decode cX7_stopAt 34 = .ok (.iload_n 3, 1) := by decide +kernel
theorem dX7_stopAt_35 : decode cX7_stopAt 35 = .ok (.aload_n 0, 1) := by decide +kernel
theorem dX7_stopAt_36 : decode cX7_stopAt 36 = .ok (.getfield 43, 3) := by decide +kernel
theorem dX7_stopAt_39 : decode cX7_stopAt 39 = .ok (.if_icmp .ge 25, 3) := by decide +kernel
theorem dX7_stopAt_42 : decode cX7_stopAt 42 = .ok (.iload_n 2, 1) := by decide +kernel
theorem dX7_stopAt_43 : decode cX7_stopAt 43 = .ok (.iconst 2, 1) := by decide +kernel
theorem dX7_stopAt_44 : decode cX7_stopAt 44 = .ok (.if_icmp .ne 20, 3) := by decide +kernel
theorem dX7_stopAt_47 : decode cX7_stopAt 47 = .ok (.aload_n 0, 1) := by decide +kernel
theorem dX7_stopAt_48 : decode cX7_stopAt 48 = .ok (.iload_n 3, 1) := by decide +kernel
theorem dX7_stopAt_49 : decode cX7_stopAt 49 = .ok (.invokevirtual 109, 3) := by decide +kernel
theorem dX7_stopAt_52 : decode cX7_stopAt 52 = .ok (.invokestatic 126, 3) := by decide +kernel
theorem dX7_stopAt_55 : decode cX7_stopAt 55 = .ok (.ifCond .eq 9, 3) := by decide +kernel
theorem dX7_stopAt_58 : decode cX7_stopAt 58 = .ok (.iinc 3 1, 3) := by decide +kernel
theorem dX7_stopAt_61 : decode cX7_stopAt 61 = .ok (.goto (-27), 3) := by decide +kernel
theorem dX7_stopAt_64 : decode cX7_stopAt 64 = .ok (.iload_n 3, 1) := by decide +kernel
theorem dX7_stopAt_65 : decode cX7_stopAt 65 = .ok (.ireturn, 1) := by decide +kernel
theorem dX7_addToken_0 : decode cX7_addToken 0 = .ok (.aload_n 0, 1) := by decide +kernel
theorem dX7_addToken_1 : decode cX7_addToken 1 = .ok (.getfield 106, 3) := by decide +kernel
theorem dX7_addToken_4 : decode cX7_addToken 4 = .ok (.ifCond .lt 93, 3) := by decide +kernel
theorem dX7_addToken_7 : decode cX7_addToken 7 = .ok (.aload_n 0, 1) := by decide +kernel
theorem dX7_addToken_8 : decode cX7_addToken 8 = .ok (.getfield 106, 3) := by decide +kernel
theorem dX7_addToken_11 : decode cX7_addToken 11 = .ok (.aload_n 0, 1) := by decide +kernel
theorem dX7_addToken_12 : decode cX7_addToken 12 = .ok (.getfield 15, 3) := by decide +kernel
theorem dX7_addToken_15 : decode cX7_addToken 15 = .ok (.arraylength, 1) := by decide +kernel
theorem dX7_addToken_16 : decode cX7_addToken 16 = .ok (.if_icmp .ge 81, 3) := by decide +kernel
theorem dX7_addToken_19 : decode cX7_addToken 19 = .ok (.aload_n 0, 1) := by decide +kernel
theorem dX7_addToken_20 : decode cX7_addToken 20 = .ok (.getfield 15, 3) := by decide +kernel
theorem dX7_addToken_23 : decode cX7_addToken 23 = .ok (.aload_n 0, 1) := by decide +kernel
theorem dX7_addToken_24 : decode cX7_addToken 24 = .ok (.getfield 106, 3) := by decide +kernel
theorem dX7_addToken_27 : decode cX7_addToken 27 = .ok (.iload_n 1, 1) := by decide +kernel
theorem dX7_addToken_28 : decode cX7_addToken 28 = .ok (.iastore, 1) := by decide +kernel
theorem dX7_addToken_29 : decode cX7_addToken 29 = .ok (.aload_n 0, 1) := by decide +kernel
theorem dX7_addToken_30 : decode cX7_addToken 30 = .ok (.getfield 19, 3) := by decide +kernel
theorem dX7_addToken_33 : decode cX7_addToken 33 = .ok (.aload_n 0, 1) := by decide +kernel
theorem dX7_addToken_34 : decode cX7_addToken 34 = .ok (.getfield 106, 3) := by decide +kernel
theorem dX7_addToken_37 : decode cX7_addToken 37 = .ok (.iload_n 2, 1) := by decide +kernel
theorem dX7_addToken_38 : decode cX7_addToken 38 = .ok (.iastore, 1) := by decide +kernel
theorem dX7_addToken_39 : decode cX7_addToken 39 = .ok (.aload_n 0, 1) := by decide +kernel
theorem dX7_addToken_40 : decode cX7_addToken 40 = .ok (.getfield 22, 3) := by decide +kernel
theorem dX7_addToken_43 : decode cX7_addToken 43 = .ok (.aload_n 0, 1) := by decide +kernel
theorem dX7_addToken_44 : decode cX7_addToken 44 = .ok (.getfield 106, 3) := by decide +kernel
theorem dX7_addToken_47 : decode cX7_addToken 47 = .ok (.iload_n 3, 1) := by decide +kernel
theorem dX7_addToken_48 : decode cX7_addToken 48 = .ok (.iastore, 1) := by decide +kernel
theorem dX7_addToken_49 : decode cX7_addToken 49 = .ok (.aload_n 0, 1) := by decide +kernel
theorem dX7_addToken_50 : decode cX7_addToken 50 = .ok (.getfield 25, 3) := by decide +kernel
theorem dX7_addToken_53 : decode cX7_addToken 53 = .ok (.aload_n 0, 1) := by decide +kernel
theorem dX7_addToken_54 : decode cX7_addToken 54 = .ok (.getfield 106, 3) := by decide +kernel
theorem dX7_addToken_57 : decode cX7_addToken 57 = .ok (.iload_n 1, 1) := by decide +kernel
theorem dX7_addToken_58 : decode cX7_addToken 58 = .ok (.iconst 1, 1) := by decide +kernel
theorem dX7_addToken_59 : decode cX7_addToken 59 = .ok (.if_icmp .ne 12, 3) := by decide +kernel
theorem dX7_addToken_62 : decode cX7_addToken 62 = .ok (.aload_n 0, 1) := by decide +kernel
theorem dX7_addToken_63 : decode cX7_addToken 63 = .ok (.iload_n 2, 1) := by decide +kernel
theorem dX7_addToken_64 : decode cX7_addToken 64 = .ok (.iload_n 3, 1) := by decide +kernel
theorem dX7_addToken_65 : decode cX7_addToken 65 = .ok (.invokevirtual 134, 3) := by decide +kernel
theorem dX7_addToken_68 : decode cX7_addToken 68 = .ok (.goto 18, 3) := by decide +kernel
theorem dX7_addToken_71 : decode cX7_addToken 71 = .ok (.iload_n 1, 1) := by decide +kernel
theorem dX7_addToken_72 : decode cX7_addToken 72 = .ok (.iconst 2, 1) := by decide +kernel
theorem dX7_addToken_73 : decode cX7_addToken 73 = .ok (.if_icmp .ne 12, 3) := by decide +kernel
theorem dX7_addToken_76 : decode cX7_addToken 76 = .ok (.aload_n 0, 1) := by decide +kernel
theorem dX7_addToken_77 : decode cX7_addToken 77 = .ok (.iload_n 2, 1) := by decide +kernel
theorem dX7_addToken_78 : decode cX7_addToken 78 = .ok (.iload_n 3, 1) := by decide +kernel
theorem dX7_addToken_79 : decode cX7_addToken 79 = .ok (.invokevirtual 137, 3) := by decide +kernel
theorem dX7_addToken_82 : decode cX7_addToken 82 = .ok (.goto 4, 3) := by decide +kernel
theorem dX7_addToken_85 : decode cX7_addToken 85 = .ok (.iconst (-1), 1) := by decide +kernel
theorem dX7_addToken_86 : decode cX7_addToken 86 = .ok (.iastore, 1) := by decide +kernel
theorem dX7_addToken_87 : decode cX7_addToken 87 = .ok (.aload_n 0, 1) := by decide +kernel
theorem dX7_addToken_88 : decode cX7_addToken 88 = .ok (.dup, 1) := by decide +kernel
theorem dX7_addToken_89 : decode cX7_addToken 89 = .ok (.getfield 106, 3) := by decide +kernel
theorem dX7_addToken_92 : decode cX7_addToken 92 = .ok (.iconst 1, 1) := by decide +kernel
theorem dX7_addToken_93 : decode cX7_addToken 93 = .ok (.iadd, 1) := by decide +kernel
theorem dX7_addToken_94 : decode cX7_addToken 94 = .ok (.putfield 106, 3) := by decide +kernel
theorem dX7_addToken_97 : decode cX7_addToken 97 = .ok (.return_, 1) := by decide +kernel
theorem dX7_numberAt_0 : decode cX7_numberAt 0 = .ok (.iconst 0, 1) := by decide +kernel
theorem dX7_numberAt_1 : decode cX7_numberAt 1 = .ok (.istore_n 3, 1) := by decide +kernel
theorem dX7_numberAt_2 : decode cX7_numberAt 2 = .ok (.iload_n 1, 1) := by decide +kernel
theorem dX7_numberAt_3 : decode cX7_numberAt 3 = .ok (.istore 4, 2) := by decide +kernel
theorem dX7_numberAt_5 : decode cX7_numberAt 5 = .ok (.iload 4, 2) := by decide +kernel
theorem dX7_numberAt_7 : decode cX7_numberAt 7 = .ok (.iload_n 2, 1) := by decide +kernel
theorem dX7_numberAt_8 : decode cX7_numberAt 8 = .ok (.if_icmp .ge 30, 3) := by decide +kernel
theorem dX7_numberAt_11 : decode cX7_numberAt 11 = .ok (.iload_n 3, 1) := by decide +kernel
theorem dX7_numberAt_12 : decode cX7_numberAt 12 = .ok (.ldc 140, 2) := by decide +kernel
theorem dX7_numberAt_14 : decode cX7_numberAt 14 = .ok (.if_icmp .gt 24, 3) := by decide +kernel
theorem dX7_numberAt_17 : decode cX7_numberAt 17 = .ok (.iload_n 3, 1) := by decide +kernel
theorem dX7_numberAt_18 : decode cX7_numberAt 18 = .ok (.bipush 10, 2) := by decide +kernel
theorem dX7_numberAt_20 : decode cX7_numberAt 20 = .ok (.imul, 1) := by decide +kernel
theorem dX7_numberAt_21 : decode cX7_numberAt 21 = .ok (.aload_n 0, 1) := by decide +kernel
theorem dX7_numberAt_22 : decode cX7_numberAt 22 = .ok (.iload 4, 2) := by decide +kernel
theorem dX7_numberAt_24 : decode cX7_numberAt 24 = .ok (.invokevirtual 109, 3) := by decide +kernel
theorem dX7_numberAt_27 : decode cX7_numberAt 27 = .ok (.iadd, 1) := by decide +kernel
theorem dX7_numberAt_28 : decode cX7_numberAt 28 = .ok (.bipush 48, 2) := by decide +kernel
theorem dX7_numberAt_30 : decode cX7_numberAt 30 = .ok (.isub, 1) := by decide +kernel
theorem dX7_numberAt_31 : decode cX7_numberAt 31 = .ok (.istore_n 3, 1) := by decide +kernel
theorem dX7_numberAt_32 : decode cX7_numberAt 32 = .ok (.iinc 4 1, 3) := by decide +kernel
theorem dX7_numberAt_35 : decode cX7_numberAt 35 = .ok (.goto (-30), 3) := by decide +kernel
theorem dX7_numberAt_38 : decode cX7_numberAt 38 = .ok (.iload_n 3, 1) := by decide +kernel
theorem dX7_numberAt_39 : decode cX7_numberAt 39 = .ok (.ireturn, 1) := by decide +kernel
theorem dX7_wordAt_0 : decode cX7_wordAt 0 = .ok (.iconst 0, 1) := by decide +kernel
theorem dX7_wordAt_1 : decode cX7_wordAt 1 = .ok (.istore_n 3, 1) := by decide +kernel
theorem dX7_wordAt_2 : decode cX7_wordAt 2 = .ok (.iconst 0, 1) := by decide +kernel
theorem dX7_wordAt_3 : decode cX7_wordAt 3 = .ok (.istore 4, 2) := by decide +kernel
theorem dX7_wordAt_5 : decode cX7_wordAt 5 = .ok (.iconst 0, 1) := by decide +kernel
theorem dX7_wordAt_6 : decode cX7_wordAt 6 = .ok (.istore 5, 2) := by decide +kernel
theorem dX7_wordAt_8 : decode cX7_wordAt 8 = .ok (.iload 5, 2) := by decide +kernel
theorem dX7_wordAt_10 : decode cX7_wordAt 10 = .ok (.ldc 141, 2) := by decide +kernel
theorem dX7_wordAt_12 : decode cX7_wordAt 12 = .ok (.invokevirtual 143, 3) := by decide +kernel
theorem dX7_wordAt_15 : decode cX7_wordAt 15 = .ok (.if_icmp .gt 65, 3) := by decide +kernel
theorem dX7_wordAt_18 : decode cX7_wordAt 18 = .ok (.iload 5, 2) := by decide +kernel
theorem dX7_wordAt_20 : decode cX7_wordAt 20 = .ok (.ldc 141, 2) := by decide +kernel
theorem dX7_wordAt_22 : decode cX7_wordAt 22 = .ok (.invokevirtual 143, 3) := by decide +kernel
theorem dX7_wordAt_25 : decode cX7_wordAt 25 = .ok (.if_icmp .eq 15, 3) := by decide +kernel
theorem dX7_wordAt_28 : decode cX7_wordAt 28 = .ok (.ldc 141, 2) := by decide +kernel
theorem dX7_wordAt_30 : decode cX7_wordAt 30 = .ok (.iload 5, 2) := by decide +kernel
theorem dX7_wordAt_32 : decode cX7_wordAt 32 = .ok (.invokevirtual 146, 3) := by decide +kernel
theorem dX7_wordAt_35 : decode cX7_wordAt 35 = .ok (.bipush 32, 2) := by decide +kernel
theorem dX7_wordAt_37 : decode cX7_wordAt 37 = .ok (.if_icmp .ne 37, 3) := by decide +kernel
theorem dX7_wordAt_40 : decode cX7_wordAt 40 = .ok (.iload 5, 2) := by decide +kernel
theorem dX7_wordAt_42 : decode cX7_wordAt 42 = .ok (.iload 4, 2) := by decide +kernel
theorem dX7_wordAt_44 : decode cX7_wordAt 44 = .ok (.isub, 1) := by decide +kernel
theorem dX7_wordAt_45 : decode cX7_wordAt 45 = .ok (.iload_n 2, 1) := by decide +kernel
theorem dX7_wordAt_46 : decode cX7_wordAt 46 = .ok (.iload_n 1, 1) := by decide +kernel
theorem dX7_wordAt_47 : decode cX7_wordAt 47 = .ok (.isub, 1) := by decide +kernel
theorem dX7_wordAt_48 : decode cX7_wordAt 48 = .ok (.if_icmp .ne 17, 3) := by decide +kernel
theorem dX7_wordAt_51 : decode cX7_wordAt 51 = .ok (.aload_n 0, 1) := by decide +kernel
theorem dX7_wordAt_52 : decode cX7_wordAt 52 = .ok (.iload 4, 2) := by decide +kernel
theorem dX7_wordAt_54 : decode cX7_wordAt 54 = .ok (.iload 5, 2) := by decide +kernel
theorem dX7_wordAt_56 : decode cX7_wordAt 56 = .ok (.iload_n 1, 1) := by decide +kernel
theorem dX7_wordAt_57 : decode cX7_wordAt 57 = .ok (.invokevirtual 150, 3) := by decide +kernel
theorem dX7_wordAt_60 : decode cX7_wordAt 60 = .ok (.ifCond .eq 5, 3) := by decide +kernel
theorem dX7_wordAt_63 : decode cX7_wordAt 63 = .ok (.iload_n 3, 1) := by decide +kernel
theorem dX7_wordAt_64 : decode cX7_wordAt 64 = .ok (.ireturn, 1) := by decide +kernel
theorem dX7_wordAt_65 : decode cX7_wordAt 65 = .ok (.iinc 3 1, 3) := by decide +kernel
theorem dX7_wordAt_68 : decode cX7_wordAt 68 = .ok (.iload 5, 2) := by decide +kernel
theorem dX7_wordAt_70 : decode cX7_wordAt 70 = .ok (.iconst 1, 1) := by decide +kernel
theorem dX7_wordAt_71 : decode cX7_wordAt 71 = .ok (.iadd, 1) := by decide +kernel
theorem dX7_wordAt_72 : decode cX7_wordAt 72 = .ok (.istore 4, 2) := by decide +kernel
theorem dX7_wordAt_74 : decode cX7_wordAt 74 = .ok (.iinc 5 1, 3) := by decide +kernel
theorem dX7_wordAt_77 : decode cX7_wordAt 77 = .ok (.goto (-69), 3) := by decide +kernel
theorem dX7_wordAt_80 : decode cX7_wordAt 80 = .ok (.iconst (-1), 1) := by decide +kernel
theorem dX7_wordAt_81 : decode cX7_wordAt 81 = .ok (.ireturn, 1) := by decide +kernel
theorem dX7_isWordAt_0 : decode cX7_isWordAt 0 = .ok (.iload_n 1, 1) := by decide +kernel
theorem dX7_isWordAt_1 : decode cX7_isWordAt 1 = .ok (.istore 4, 2) := by decide +kernel
theorem dX7_isWordAt_3 : decode cX7_isWordAt 3 = .ok (.iload 4, 2) := by decide +kernel
theorem dX7_isWordAt_5 : decode cX7_isWordAt 5 = .ok (.ifCond .lt 47, 3) := by decide +kernel
theorem dX7_isWordAt_8 : decode cX7_isWordAt 8 = .ok (.iload 4, 2) := by decide +kernel
theorem dX7_isWordAt_10 : decode cX7_isWordAt 10 = .ok (.iload_n 2, 1) := by decide +kernel
theorem dX7_isWordAt_11 : decode cX7_isWordAt 11 = .ok (.if_icmp .ge 41, 3) := by decide +kernel
theorem dX7_isWordAt_14 : decode cX7_isWordAt 14 = .ok (.iload 4, 2) := by decide +kernel
theorem dX7_isWordAt_16 : decode cX7_isWordAt 16 = .ok (.ldc 141, 2) := by decide +kernel
theorem dX7_isWordAt_18 : decode cX7_isWordAt 18 = .ok (.invokevirtual 143, 3) := by decide +kernel
theorem dX7_isWordAt_21 : decode cX7_isWordAt 21 = .ok (.if_icmp .ge 31, 3) := by decide +kernel
theorem dX7_isWordAt_24 : decode cX7_isWordAt 24 = .ok (.ldc 141, 2) := by decide +kernel
theorem dX7_isWordAt_26 : decode cX7_isWordAt 26 = .ok (.iload 4, 2) := by decide +kernel
theorem dX7_isWordAt_28 : decode cX7_isWordAt 28 = .ok (.invokevirtual 146, 3) := by decide +kernel
theorem dX7_isWordAt_31 : decode cX7_isWordAt 31 = .ok (.aload_n 0, 1) := by decide +kernel
theorem dX7_isWordAt_32 : decode cX7_isWordAt 32 = .ok (.iload_n 3, 1) := by decide +kernel
theorem dX7_isWordAt_33 : decode cX7_isWordAt 33 = .ok (.iload 4, 2) := by decide +kernel
theorem dX7_isWordAt_35 : decode cX7_isWordAt 35 = .ok (.iadd, 1) := by decide +kernel
theorem dX7_isWordAt_36 : decode cX7_isWordAt 36 = .ok (.iload_n 1, 1) := by decide +kernel
theorem dX7_isWordAt_37 : decode cX7_isWordAt 37 = .ok (.isub, 1) := by decide +kernel
theorem dX7_isWordAt_38 : decode cX7_isWordAt 38 = .ok (.invokevirtual 109, 3) := by decide +kernel
theorem dX7_isWordAt_41 : decode cX7_isWordAt 41 = .ok (.if_icmp .eq 5, 3) := by decide +kernel
theorem dX7_isWordAt_44 : decode cX7_isWordAt 44 = .ok (.iconst 0, 1) := by decide +kernel
theorem dX7_isWordAt_45 : decode cX7_isWordAt 45 = .ok (.ireturn, 1) := by decide +kernel
theorem dX7_isWordAt_46 : decode cX7_isWordAt 46 = .ok (.iinc 4 1, 3) := by decide +kernel
theorem dX7_isWordAt_49 : decode cX7_isWordAt 49 = .ok (.goto (-46), 3) := by decide +kernel
theorem dX7_isWordAt_52 : decode cX7_isWordAt 52 = .ok (.iconst 1, 1) := by decide +kernel
theorem dX7_isWordAt_53 : decode cX7_isWordAt 53 = .ok (.ireturn, 1) := by decide +kernel
theorem dX7_kind_0 : decode cX7_kind 0 = .ok (.aload_n 0, 1) := by decide +kernel
theorem dX7_kind_1 : decode cX7_kind 1 = .ok (.getfield 53, 3) := by decide +kernel
theorem dX7_kind_4 : decode cX7_kind 4 = .ok (.ifCond .lt 38, 3) := by decide +kernel
theorem dX7_kind_7 : decode cX7_kind 7 = .ok (.aload_n 0, 1) := by decide +kernel
theorem dX7_kind_8 : decode cX7_kind 8 = .ok (.getfield 53, 3) := by decide +kernel
theorem dX7_kind_11 : decode cX7_kind 11 = .ok (.aload_n 0, 1) := by decide +kernel
theorem dX7_kind_12 : decode cX7_kind 12 = .ok (.getfield 106, 3) := by decide +kernel
theorem dX7_kind_15 : decode cX7_kind 15 = .ok (.if_icmp .ge 27, 3) := by decide +kernel
theorem dX7_kind_18 : decode cX7_kind 18 = .ok (.aload_n 0, 1) := by decide +kernel
theorem dX7_kind_19 : decode cX7_kind 19 = .ok (.getfield 53, 3) := by decide +kernel
theorem dX7_kind_22 : decode cX7_kind 22 = .ok (.aload_n 0, 1) := by decide +kernel
theorem dX7_kind_23 : decode cX7_kind 23 = .ok (.getfield 15, 3) := by decide +kernel
theorem dX7_kind_26 : decode cX7_kind 26 = .ok (.arraylength, 1) := by decide +kernel
theorem dX7_kind_27 : decode cX7_kind 27 = .ok (.if_icmp .ge 15, 3) := by decide +kernel
theorem dX7_kind_30 : decode cX7_kind 30 = .ok (.aload_n 0, 1) := by decide +kernel
theorem dX7_kind_31 : decode cX7_kind 31 = .ok (.getfield 15, 3) := by decide +kernel
theorem dX7_kind_34 : decode cX7_kind 34 = .ok (.aload_n 0, 1) := by decide +kernel
theorem dX7_kind_35 : decode cX7_kind 35 = .ok (.getfield 53, 3) := by decide +kernel
theorem dX7_kind_38 : decode cX7_kind 38 = .ok (.iaload, 1) := by decide +kernel
theorem dX7_kind_39 : decode cX7_kind 39 = .ok (.goto 4, 3) := by decide +kernel
theorem dX7_kind_42 : decode cX7_kind 42 = .ok (.iconst 0, 1) := by decide +kernel
theorem dX7_kind_43 : decode cX7_kind 43 = .ok (.ireturn, 1) := by decide +kernel
theorem dX7_word_0 : decode cX7_word 0 = .ok (.aload_n 0, 1) := by decide +kernel
theorem dX7_word_1 : decode cX7_word 1 = .ok (.invokevirtual 68, 3) := by decide +kernel
theorem dX7_word_4 : decode cX7_word 4 = .ok (.iconst 1, 1) := by decide +kernel
theorem dX7_word_5 : decode cX7_word 5 = .ok (.if_icmp .ne 15, 3) := by decide +kernel
theorem dX7_word_8 : decode cX7_word 8 = .ok (.aload_n 0, 1) := by decide +kernel
theorem dX7_word_9 : decode cX7_word 9 = .ok (.getfield 25, 3) := by decide +kernel
theorem dX7_word_12 : decode cX7_word 12 = .ok (.aload_n 0, 1) := by decide +kernel
theorem dX7_word_13 : decode cX7_word 13 = .ok (.getfield 53, 3) := by decide +kernel
theorem dX7_word_16 : decode cX7_word 16 = .ok (.iaload, 1) := by decide +kernel
theorem dX7_word_17 : decode cX7_word 17 = .ok (.goto 4, 3) := by decide +kernel
theorem dX7_word_20 : decode cX7_word 20 = .ok (.iconst (-1), 1) := by decide +kernel
theorem dX7_word_21 : decode cX7_word 21 = .ok (.ireturn, 1) := by decide +kernel
theorem dX7_refuse_0 : decode cX7_refuse 0 = .ok (.aload_n 0, 1) := by decide +kernel
theorem dX7_refuse_1 : decode cX7_refuse 1 = .ok (.getfield 50, 3) := by decide +kernel
theorem dX7_refuse_4 : decode cX7_refuse 4 = .ok (.iconst (-1), 1) := by decide +kernel
theorem dX7_refuse_5 : decode cX7_refuse 5 = .ok (.if_icmp .ne 53, 3) := by decide +kernel
theorem dX7_refuse_8 : decode cX7_refuse 8 = .ok (.aload_n 0, 1) := by decide +kernel
theorem dX7_refuse_9 : decode cX7_refuse 9 = .ok (.aload_n 0, 1) := by decide +kernel
theorem dX7_refuse_10 : decode cX7_refuse 10 = .ok (.getfield 53, 3) := by decide +kernel
theorem dX7_refuse_13 : decode cX7_refuse 13 = .ok (.ifCond .lt 38, 3) := by decide +kernel
theorem dX7_refuse_16 : decode cX7_refuse 16 = .ok (.aload_n 0, 1) := by decide +kernel
theorem dX7_refuse_17 : decode cX7_refuse 17 = .ok (.getfield 53, 3) := by decide +kernel
theorem dX7_refuse_20 : decode cX7_refuse 20 = .ok (.aload_n 0, 1) := by decide +kernel
theorem dX7_refuse_21 : decode cX7_refuse 21 = .ok (.getfield 106, 3) := by decide +kernel
theorem dX7_refuse_24 : decode cX7_refuse 24 = .ok (.if_icmp .ge 27, 3) := by decide +kernel
theorem dX7_refuse_27 : decode cX7_refuse 27 = .ok (.aload_n 0, 1) := by decide +kernel
theorem dX7_refuse_28 : decode cX7_refuse 28 = .ok (.getfield 53, 3) := by decide +kernel
theorem dX7_refuse_31 : decode cX7_refuse 31 = .ok (.aload_n 0, 1) := by decide +kernel
theorem dX7_refuse_32 : decode cX7_refuse 32 = .ok (.getfield 19, 3) := by decide +kernel
theorem dX7_refuse_35 : decode cX7_refuse 35 = .ok (.arraylength, 1) := by decide +kernel
theorem dX7_refuse_36 : decode cX7_refuse 36 = .ok (.if_icmp .ge 15, 3) := by decide +kernel
theorem dX7_refuse_39 : decode cX7_refuse 39 = .ok (.aload_n 0, 1) := by decide +kernel
theorem dX7_refuse_40 : decode cX7_refuse 40 = .ok (.getfield 19, 3) := by decide +kernel
theorem dX7_refuse_43 : decode cX7_refuse 43 = .ok (.aload_n 0, 1) := by decide +kernel
theorem dX7_refuse_44 : decode cX7_refuse 44 = .ok (.getfield 53, 3) := by decide +kernel
theorem dX7_refuse_47 : decode cX7_refuse 47 = .ok (.iaload, 1) := by decide +kernel
theorem dX7_refuse_48 : decode cX7_refuse 48 = .ok (.goto 7, 3) := by decide +kernel
theorem dX7_refuse_51 : decode cX7_refuse 51 = .ok (.aload_n 0, 1) := by decide +kernel
theorem dX7_refuse_52 : decode cX7_refuse 52 = .ok (.getfield 43, 3) := by decide +kernel
theorem dX7_refuse_55 : decode cX7_refuse 55 = .ok (.putfield 50, 3) := by decide +kernel
theorem dX7_refuse_58 : decode cX7_refuse 58 = .ok (.return_, 1) := by decide +kernel
theorem dX7_advance_0 : decode cX7_advance 0 = .ok (.aload_n 0, 1) := by decide +kernel
theorem dX7_advance_1 : decode cX7_advance 1 = .ok (.getfield 50, 3) := by decide +kernel
theorem dX7_advance_4 : decode cX7_advance 4 = .ok (.iconst (-1), 1) := by decide +kernel
theorem dX7_advance_5 : decode cX7_advance 5 = .ok (.if_icmp .ne 13, 3) := by decide +kernel
theorem dX7_advance_8 : decode cX7_advance 8 = .ok (.aload_n 0, 1) := by decide +kernel
theorem dX7_advance_9 : decode cX7_advance 9 = .ok (.dup, 1) := by decide +kernel
theorem dX7_advance_10 : decode cX7_advance 10 = .ok (.getfield 53, 3) := by decide +kernel
theorem dX7_advance_13 : decode cX7_advance 13 = .ok (.iconst 1, 1) := by decide +kernel
theorem dX7_advance_14 : decode cX7_advance 14 = .ok (.iadd, 1) := by decide +kernel
theorem dX7_advance_15 : decode cX7_advance 15 = .ok (.putfield 53, 3) := by decide +kernel
theorem dX7_advance_18 : decode cX7_advance 18 = .ok (.return_, 1) := by decide +kernel
theorem dX7_expect_0 : decode cX7_expect 0 = .ok (.aload_n 0, 1) := by decide +kernel
theorem dX7_expect_1 : decode cX7_expect 1 = .ok (.invokevirtual 68, 3) := by decide +kernel
theorem dX7_expect_4 : decode cX7_expect 4 = .ok (.iload_n 1, 1) := by decide +kernel
theorem dX7_expect_5 : decode cX7_expect 5 = .ok (.if_icmp .eq 7, 3) := by decide +kernel
theorem dX7_expect_8 : decode cX7_expect 8 = .ok (.aload_n 0, 1) := by decide +kernel
theorem dX7_expect_9 : decode cX7_expect 9 = .ok (.invokevirtual 154, 3) := by decide +kernel
theorem dX7_expect_12 : decode cX7_expect 12 = .ok (.aload_n 0, 1) := by decide +kernel
theorem dX7_expect_13 : decode cX7_expect 13 = .ok (.invokevirtual 157, 3) := by decide +kernel
theorem dX7_expect_16 : decode cX7_expect 16 = .ok (.return_, 1) := by decide +kernel
theorem dX7_emit_0 : decode cX7_emit 0 = .ok (.aload_n 0, 1) := by decide +kernel
theorem dX7_emit_1 : decode cX7_emit 1 = .ok (.getfield 50, 3) := by decide +kernel
theorem dX7_emit_4 : decode cX7_emit 4 = .ok (.iconst (-1), 1) := by decide +kernel
theorem dX7_emit_5 : decode cX7_emit 5 = .ok (.if_icmp .ne 42, 3) := by decide +kernel
theorem dX7_emit_8 : decode cX7_emit 8 = .ok (.aload_n 0, 1) := by decide +kernel
theorem dX7_emit_9 : decode cX7_emit 9 = .ok (.getfield 56, 3) := by decide +kernel
theorem dX7_emit_12 : decode cX7_emit 12 = .ok (.ifCond .lt 35, 3) := by decide +kernel
theorem dX7_emit_15 : decode cX7_emit 15 = .ok (.aload_n 0, 1) := by decide +kernel
theorem dX7_emit_16 : decode cX7_emit 16 = .ok (.getfield 56, 3) := by decide +kernel
theorem dX7_emit_19 : decode cX7_emit 19 = .ok (.aload_n 0, 1) := by decide +kernel
theorem dX7_emit_20 : decode cX7_emit 20 = .ok (.getfield 28, 3) := by decide +kernel
theorem dX7_emit_23 : decode cX7_emit 23 = .ok (.arraylength, 1) := by decide +kernel
theorem dX7_emit_24 : decode cX7_emit 24 = .ok (.if_icmp .ge 23, 3) := by decide +kernel
theorem dX7_emit_27 : decode cX7_emit 27 = .ok (.aload_n 0, 1) := by decide +kernel
theorem dX7_emit_28 : decode cX7_emit 28 = .ok (.getfield 28, 3) := by decide +kernel
theorem dX7_emit_31 : decode cX7_emit 31 = .ok (.aload_n 0, 1) := by decide +kernel
theorem dX7_emit_32 : decode cX7_emit 32 = .ok (.getfield 56, 3) := by decide +kernel
theorem dX7_emit_35 : decode cX7_emit 35 = .ok (.iload_n 1, 1) := by decide +kernel
theorem dX7_emit_36 : decode cX7_emit 36 = .ok (.iastore, 1) := by decide +kernel
theorem dX7_emit_37 : decode cX7_emit 37 = .ok (.aload_n 0, 1) := by decide +kernel
theorem dX7_emit_38 : decode cX7_emit 38 = .ok (.dup, 1) := by decide +kernel
theorem dX7_emit_39 : decode cX7_emit 39 = .ok (.getfield 56, 3) := by decide +kernel
theorem dX7_emit_42 : decode cX7_emit 42 = .ok (.iconst 1, 1) := by decide +kernel
theorem dX7_emit_43 : decode cX7_emit 43 = .ok (.iadd, 1) := by decide +kernel
theorem dX7_emit_44 : decode cX7_emit 44 = .ok (.putfield 56, 3) := by decide +kernel
theorem dX7_emit_47 : decode cX7_emit 47 = .ok (.return_, 1) := by decide +kernel
theorem dX7_readClause_0 : decode cX7_readClause 0 = .ok (.aload_n 0, 1) := by decide +kernel
theorem dX7_readClause_1 : decode cX7_readClause 1 = .ok (.invokevirtual 160, 3) := by decide +kernel
theorem dX7_readClause_4 : decode cX7_readClause 4 = .ok (.ifCond .ne 14, 3) := by decide +kernel
theorem dX7_readClause_7 : decode cX7_readClause 7 = .ok (.aload_n 0, 1) := by decide +kernel
theorem dX7_readClause_8 : decode cX7_readClause 8 = .ok (.invokevirtual 157, 3) := by decide +kernel
theorem dX7_readClause_11 : decode cX7_readClause 11 = .ok (.aload_n 0, 1) := by decide +kernel
theorem dX7_readClause_12 : decode cX7_readClause 12 = .ok (.invokevirtual 163, 3) := by decide +kernel
theorem dX7_readClause_15 : decode cX7_readClause 15 = .ok (.goto 63, 3) := by decide +kernel
theorem dX7_readClause_18 : decode cX7_readClause 18 = .ok (.aload_n 0, 1) := by decide +kernel
theorem dX7_readClause_19 : decode cX7_readClause 19 = .ok (.invokevirtual 166, 3) := by decide +kernel
theorem dX7_readClause_22 : decode cX7_readClause 22 = .ok (.istore_n 1, 1) := by decide +kernel
theorem dX7_readClause_23 : decode cX7_readClause 23 = .ok (.iload_n 1, 1) := by decide +kernel
theorem dX7_readClause_24 : decode cX7_readClause 24 = .ok (.ifCond .ne 12, 3) := by decide +kernel
theorem dX7_readClause_27 : decode cX7_readClause 27 = .ok (.aload_n 0, 1) := by decide +kernel
theorem dX7_readClause_28 : decode cX7_readClause 28 = .ok (.bipush 21, 2) := by decide +kernel
theorem dX7_readClause_30 : decode cX7_readClause 30 = .ok (.invokevirtual 169, 3) := by decide +kernel
theorem dX7_readClause_33 : decode cX7_readClause 33 = .ok (.goto 40, 3) := by decide +kernel
theorem dX7_readClause_36 : decode cX7_readClause 36 = .ok (.iload_n 1, 1) := by decide +kernel
theorem dX7_readClause_37 : decode cX7_readClause 37 = .ok (.iconst 1, 1) := by decide +kernel
theorem dX7_readClause_38 : decode cX7_readClause 38 = .ok (.if_icmp .ne 12, 3) := by decide +kernel
theorem dX7_readClause_41 : decode cX7_readClause 41 = .ok (.aload_n 0, 1) := by decide +kernel
theorem dX7_readClause_42 : decode cX7_readClause 42 = .ok (.bipush 23, 2) := by decide +kernel
theorem dX7_readClause_44 : decode cX7_readClause 44 = .ok (.invokevirtual 169, 3) := by decide +kernel
theorem dX7_readClause_47 : decode cX7_readClause 47 = .ok (.goto 26, 3) := by decide +kernel
theorem dX7_readClause_50 : decode cX7_readClause 50 = .ok (.iload_n 1, 1) := by decide +kernel
theorem dX7_readClause_51 : decode cX7_readClause 51 = .ok (.iconst 2, 1) := by decide +kernel
theorem dX7_readClause_52 : decode cX7_readClause 52 = .ok (.if_icmp .eq 8, 3) := by decide +kernel
theorem dX7_readClause_55 : decode cX7_readClause 55 = .ok (.iload_n 1, 1) := by decide +kernel
theorem dX7_readClause_56 : decode cX7_readClause 56 = .ok (.iconst 3, 1) := by decide +kernel
theorem dX7_readClause_57 : decode cX7_readClause 57 = .ok (.if_icmp .ne 11, 3) := by decide +kernel
theorem dX7_readClause_60 : decode cX7_readClause 60 = .ok (.aload_n 0, 1) := by decide +kernel
theorem dX7_readClause_61 : decode cX7_readClause 61 = .ok (.iconst 0, 1) := by decide +kernel
theorem dX7_readClause_62 : decode cX7_readClause 62 = .ok (.invokevirtual 173, 3) := by decide +kernel
theorem dX7_readClause_65 : decode cX7_readClause 65 = .ok (.goto 8, 3) := by decide +kernel
theorem dX7_readClause_68 : decode cX7_readClause 68 = .ok (.aload_n 0, 1) := by decide +kernel
theorem dX7_readClause_69 : decode cX7_readClause 69 = .ok (.iconst 0, 1) := by decide +kernel
theorem dX7_readClause_70 : decode cX7_readClause 70 = .ok (.invokevirtual 176, 3) := by decide +kernel
theorem dX7_readClause_73 : decode cX7_readClause 73 = .ok (.aload_n 0, 1) := by decide +kernel
theorem dX7_readClause_74 : decode cX7_readClause 74 = .ok (.iload_n 1, 1) := by decide +kernel
theorem dX7_readClause_75 : decode cX7_readClause 75 = .ok (.invokevirtual 179, 3) := by decide +kernel
theorem dX7_readClause_78 : decode cX7_readClause 78 = .ok (.aload_n 0, 1) := by decide +kernel
theorem dX7_readClause_79 : decode cX7_readClause 79 = .ok (.bipush 59, 2) := by decide +kernel
theorem dX7_readClause_81 : decode cX7_readClause 81 = .ok (.invokevirtual 182, 3) := by decide +kernel
theorem dX7_readClause_84 : decode cX7_readClause 84 = .ok (.return_, 1) := by decide +kernel
theorem dX7_readSkip_0 : decode cX7_readSkip 0 = .ok (.aload_n 0, 1) := by decide +kernel
theorem dX7_readSkip_1 : decode cX7_readSkip 1 = .ok (.invokevirtual 68, 3) := by decide +kernel
theorem dX7_readSkip_4 : decode cX7_readSkip 4 = .ok (.iconst 1, 1) := by decide +kernel
theorem dX7_readSkip_5 : decode cX7_readSkip 5 = .ok (.if_icmp .ne 42, 3) := by decide +kernel
theorem dX7_readSkip_8 : decode cX7_readSkip 8 = .ok (.aload_n 0, 1) := by decide +kernel
theorem dX7_readSkip_9 : decode cX7_readSkip 9 = .ok (.getfield 59, 3) := by decide +kernel
theorem dX7_readSkip_12 : decode cX7_readSkip 12 = .ok (.ifCond .lt 35, 3) := by decide +kernel
theorem dX7_readSkip_15 : decode cX7_readSkip 15 = .ok (.aload_n 0, 1) := by decide +kernel
theorem dX7_readSkip_16 : decode cX7_readSkip 16 = .ok (.getfield 59, 3) := by decide +kernel
theorem dX7_readSkip_19 : decode cX7_readSkip 19 = .ok (.iconst 4, 1) := by decide +kernel
theorem dX7_readSkip_20 : decode cX7_readSkip 20 = .ok (.if_icmp .ge 27, 3) := by decide +kernel
theorem dX7_readSkip_23 : decode cX7_readSkip 23 = .ok (.aload_n 0, 1) := by decide +kernel
theorem dX7_readSkip_24 : decode cX7_readSkip 24 = .ok (.getfield 22, 3) := by decide +kernel
theorem dX7_readSkip_27 : decode cX7_readSkip 27 = .ok (.aload_n 0, 1) := by decide +kernel
theorem dX7_readSkip_28 : decode cX7_readSkip 28 = .ok (.getfield 53, 3) := by decide +kernel
theorem dX7_readSkip_31 : decode cX7_readSkip 31 = .ok (.iaload, 1) := by decide +kernel
theorem dX7_readSkip_32 : decode cX7_readSkip 32 = .ok (.aload_n 0, 1) := by decide +kernel
theorem dX7_readSkip_33 : decode cX7_readSkip 33 = .ok (.getfield 19, 3) := by decide +kernel
theorem dX7_readSkip_36 : decode cX7_readSkip 36 = .ok (.aload_n 0, 1) := by decide +kernel
theorem dX7_readSkip_37 : decode cX7_readSkip 37 = .ok (.getfield 53, 3) := by decide +kernel
theorem dX7_readSkip_40 : decode cX7_readSkip 40 = .ok (.iaload, 1) := by decide +kernel
theorem dX7_readSkip_41 : decode cX7_readSkip 41 = .ok (.isub, 1) := by decide +kernel
theorem dX7_readSkip_42 : decode cX7_readSkip 42 = .ok (.bipush 8, 2) := by decide +kernel
theorem dX7_readSkip_44 : decode cX7_readSkip 44 = .ok (.if_icmp .le 8, 3) := by decide +kernel
theorem dX7_readSkip_47 : decode cX7_readSkip 47 = .ok (.aload_n 0, 1) := by decide +kernel
theorem dX7_readSkip_48 : decode cX7_readSkip 48 = .ok (.invokevirtual 154, 3) := by decide +kernel
theorem dX7_readSkip_51 : decode cX7_readSkip 51 = .ok (.return_, 1) := by decide +kernel
theorem dX7_readSkip_52 : decode cX7_readSkip 52 = .ok (.lconst 0, 1) := by decide +kernel
theorem dX7_readSkip_53 : decode cX7_readSkip 53 = .ok (.lstore_n 1, 1) := by decide +kernel
theorem dX7_readSkip_54 : decode cX7_readSkip 54 = .ok (.aload_n 0, 1) := by decide +kernel
theorem dX7_readSkip_55 : decode cX7_readSkip 55 = .ok (.getfield 19, 3) := by decide +kernel
theorem dX7_readSkip_58 : decode cX7_readSkip 58 = .ok (.aload_n 0, 1) := by decide +kernel
theorem dX7_readSkip_59 : decode cX7_readSkip 59 = .ok (.getfield 53, 3) := by decide +kernel
theorem dX7_readSkip_62 : decode cX7_readSkip 62 = .ok (.iaload, 1) := by decide +kernel
theorem dX7_readSkip_63 : decode cX7_readSkip 63 = .ok (.istore_n 3, 1) := by decide +kernel
theorem dX7_readSkip_64 : decode cX7_readSkip 64 = .ok (.iload_n 3, 1) := by decide +kernel
theorem dX7_readSkip_65 : decode cX7_readSkip 65 = .ok (.aload_n 0, 1) := by decide +kernel
theorem dX7_readSkip_66 : decode cX7_readSkip 66 = .ok (.getfield 22, 3) := by decide +kernel
theorem dX7_readSkip_69 : decode cX7_readSkip 69 = .ok (.aload_n 0, 1) := by decide +kernel
theorem dX7_readSkip_70 : decode cX7_readSkip 70 = .ok (.getfield 53, 3) := by decide +kernel
theorem dX7_readSkip_73 : decode cX7_readSkip 73 = .ok (.iaload, 1) := by decide +kernel
theorem dX7_readSkip_74 : decode cX7_readSkip 74 = .ok (.if_icmp .ge 21, 3) := by decide +kernel
theorem dX7_readSkip_77 : decode cX7_readSkip 77 = .ok (.lload_n 1, 1) := by decide +kernel
theorem dX7_readSkip_78 : decode cX7_readSkip 78 = .ok (.bipush 8, 2) := by decide +kernel
theorem dX7_readSkip_80 : decode cX7_readSkip 80 = .ok (.lshl, 1) := by decide +kernel
theorem dX7_readSkip_81 : decode cX7_readSkip 81 = .ok (.aload_n 0, 1) := by decide +kernel
theorem dX7_readSkip_82 : decode cX7_readSkip 82 = .ok (.iload_n 3, 1) := by decide +kernel
theorem dX7_readSkip_83 : decode cX7_readSkip 83 = .ok (.invokevirtual 109, 3) := by decide +kernel
theorem dX7_readSkip_86 : decode cX7_readSkip 86 = .ok (.i2l, 1) := by decide +kernel
theorem dX7_readSkip_87 : decode cX7_readSkip 87 = .ok (.lor, 1) := by decide +kernel
theorem dX7_readSkip_88 : decode cX7_readSkip 88 = .ok (.lstore_n 1, 1) := by decide +kernel
theorem dX7_readSkip_89 : decode cX7_readSkip 89 = .ok (.iinc 3 1, 3) := by decide +kernel
theorem dX7_readSkip_92 : decode cX7_readSkip 92 = .ok (.goto (-28), 3) := by decide +kernel
theorem dX7_readSkip_95 : decode cX7_readSkip 95 = .ok (.aload_n 0, 1) := by decide +kernel
theorem dX7_readSkip_96 : decode cX7_readSkip 96 = .ok (.getfield 39, 3) := by decide +kernel
theorem dX7_readSkip_99 : decode cX7_readSkip 99 = .ok (.aload_n 0, 1) := by decide +kernel
theorem dX7_readSkip_100 : decode cX7_readSkip 100 = .ok (.getfield 59, 3) := by decide +kernel
theorem dX7_readSkip_103 : decode cX7_readSkip 103 = .ok (.lload_n 1, 1) := by decide +kernel
theorem dX7_readSkip_104 : decode cX7_readSkip 104 = .ok (.lastore, 1) := by decide +kernel
theorem dX7_readSkip_105 : decode cX7_readSkip 105 = .ok (.aload_n 0, 1) := by decide +kernel
theorem dX7_readSkip_106 : decode cX7_readSkip 106 = .ok (.dup, 1) := by decide +kernel
theorem dX7_readSkip_107 : decode cX7_readSkip 107 = .ok (.getfield 59, 3) := by decide +kernel
theorem dX7_readSkip_110 : decode cX7_readSkip 110 = .ok (.iconst 1, 1) := by decide +kernel
theorem dX7_readSkip_111 : decode cX7_readSkip 111 = .ok (.iadd, 1) := by decide +kernel
theorem dX7_readSkip_112 : decode cX7_readSkip 112 = .ok (.putfield 59, 3) := by decide +kernel
theorem dX7_readSkip_115 : decode cX7_readSkip 115 = .ok (.aload_n 0, 1) := by decide +kernel
theorem dX7_readSkip_116 : decode cX7_readSkip 116 = .ok (.invokevirtual 157, 3) := by decide +kernel
theorem dX7_readSkip_119 : decode cX7_readSkip 119 = .ok (.return_, 1) := by decide +kernel
theorem dX7_openSort_0 : decode cX7_openSort 0 = .ok (.aload_n 0, 1) := by decide +kernel
theorem dX7_openSort_1 : decode cX7_openSort 1 = .ok (.invokevirtual 160, 3) := by decide +kernel
theorem dX7_openSort_4 : decode cX7_openSort 4 = .ok (.istore_n 1, 1) := by decide +kernel
theorem dX7_openSort_5 : decode cX7_openSort 5 = .ok (.iconst (-1), 1) := by decide +kernel
theorem dX7_openSort_6 : decode cX7_openSort 6 = .ok (.istore_n 2, 1) := by decide +kernel
theorem dX7_openSort_7 : decode cX7_openSort 7 = .ok (.iload_n 1, 1) := by decide +kernel
theorem dX7_openSort_8 : decode cX7_openSort 8 = .ok (.iconst 1, 1) := by decide +kernel
theorem dX7_openSort_9 : decode cX7_openSort 9 = .ok (.if_icmp .lt 17, 3) := by decide +kernel
theorem dX7_openSort_12 : decode cX7_openSort 12 = .ok (.iload_n 1, 1) := by decide +kernel
theorem dX7_openSort_13 : decode cX7_openSort 13 = .ok (.iconst 5, 1) := by decide +kernel
theorem dX7_openSort_14 : decode cX7_openSort 14 = .ok (.if_icmp .gt 12, 3) := by decide +kernel
theorem dX7_openSort_17 : decode cX7_openSort 17 = .ok (.iconst 0, 1) := by decide +kernel
theorem dX7_openSort_18 : decode cX7_openSort 18 = .ok (.iload_n 1, 1) := by decide +kernel
theorem dX7_openSort_19 : decode cX7_openSort 19 = .ok (.iadd, 1) := by decide +kernel
theorem dX7_openSort_20 : decode cX7_openSort 20 = .ok (.iconst 1, 1) := by decide +kernel
theorem dX7_openSort_21 : decode cX7_openSort 21 = .ok (.isub, 1) := by decide +kernel
theorem dX7_openSort_22 : decode cX7_openSort 22 = .ok (.istore_n 2, 1) := by decide +kernel
theorem dX7_openSort_23 : decode cX7_openSort 23 = .ok (.goto 51, 3) := by decide +kernel
theorem dX7_openSort_26 : decode cX7_openSort 26 = .ok (.iload_n 1, 1) := by decide +kernel
theorem dX7_openSort_27 : decode cX7_openSort 27 = .ok (.bipush 6, 2) := by decide +kernel
theorem dX7_openSort_29 : decode cX7_openSort 29 = .ok (.if_icmp .lt 45, 3) := by decide +kernel
theorem dX7_openSort_32 : decode cX7_openSort 32 = .ok (.iload_n 1, 1) := by decide +kernel
theorem dX7_openSort_33 : decode cX7_openSort 33 = .ok (.bipush 8, 2) := by decide +kernel
theorem dX7_openSort_35 : decode cX7_openSort 35 = .ok (.if_icmp .gt 39, 3) := by decide +kernel
theorem dX7_openSort_38 : decode cX7_openSort 38 = .ok (.aload_n 0, 1) := by decide +kernel
theorem dX7_openSort_39 : decode cX7_openSort 39 = .ok (.invokevirtual 157, 3) := by decide +kernel
theorem dX7_openSort_42 : decode cX7_openSort 42 = .ok (.aload_n 0, 1) := by decide +kernel
theorem dX7_openSort_43 : decode cX7_openSort 43 = .ok (.invokevirtual 160, 3) := by decide +kernel
theorem dX7_openSort_46 : decode cX7_openSort 46 = .ok (.bipush 9, 2) := by decide +kernel
theorem dX7_openSort_48 : decode cX7_openSort 48 = .ok (.isub, 1) := by decide +kernel
theorem dX7_openSort_49 : decode cX7_openSort 49 = .ok (.istore_n 3, 1) := by decide +kernel
theorem dX7_openSort_50 : decode cX7_openSort 50 = .ok (.iload_n 3, 1) := by decide +kernel
theorem dX7_openSort_51 : decode cX7_openSort 51 = .ok (.ifCond .lt 21, 3) := by decide +kernel
theorem dX7_openSort_54 : decode cX7_openSort 54 = .ok (.iload_n 3, 1) := by decide +kernel
theorem dX7_openSort_55 : decode cX7_openSort 55 = .ok (.iconst 2, 1) := by decide +kernel
theorem dX7_openSort_56 : decode cX7_openSort 56 = .ok (.if_icmp .gt 16, 3) := by decide +kernel
theorem dX7_openSort_59 : decode cX7_openSort 59 = .ok (.iconst 5, 1) := by decide +kernel
theorem dX7_openSort_60 : decode cX7_openSort 60 = .ok (.iconst 3, 1) := by decide +kernel
theorem dX7_openSort_61 : decode cX7_openSort 61 = .ok (.iload_n 1, 1) := by decide +kernel
theorem dX7_openSort_62 : decode cX7_openSort 62 = .ok (.bipush 6, 2) := by decide +kernel
theorem dX7_openSort_64 : decode cX7_openSort 64 = .ok (.isub, 1) := by decide +kernel
theorem dX7_openSort_65 : decode cX7_openSort 65 = .ok (.imul, 1) := by decide +kernel
theorem dX7_openSort_66 : decode cX7_openSort 66 = .ok (.iadd, 1) := by decide +kernel
theorem dX7_openSort_67 : decode cX7_openSort 67 = .ok (.iload_n 3, 1) := by decide +kernel
theorem dX7_openSort_68 : decode cX7_openSort 68 = .ok (.iadd, 1) := by decide +kernel
theorem dX7_openSort_69 : decode cX7_openSort 69 = .ok (.goto 4, 3) := by decide +kernel
theorem dX7_openSort_72 : decode cX7_openSort 72 = .ok (.iconst (-1), 1) := by decide +kernel
theorem dX7_openSort_73 : decode cX7_openSort 73 = .ok (.istore_n 2, 1) := by decide +kernel
theorem dX7_openSort_74 : decode cX7_openSort 74 = .ok (.iload_n 2, 1) := by decide +kernel
theorem dX7_openSort_75 : decode cX7_openSort 75 = .ok (.ifCond .lt 19, 3) := by decide +kernel
theorem dX7_openSort_78 : decode cX7_openSort 78 = .ok (.iload_n 2, 1) := by decide +kernel
theorem dX7_openSort_79 : decode cX7_openSort 79 = .ok (.bipush 14, 2) := by decide +kernel
theorem dX7_openSort_81 : decode cX7_openSort 81 = .ok (.if_icmp .ge 13, 3) := by decide +kernel
theorem dX7_openSort_84 : decode cX7_openSort 84 = .ok (.aload_n 0, 1) := by decide +kernel
theorem dX7_openSort_85 : decode cX7_openSort 85 = .ok (.getfield 33, 3) := by decide +kernel
theorem dX7_openSort_88 : decode cX7_openSort 88 = .ok (.iload_n 2, 1) := by decide +kernel
theorem dX7_openSort_89 : decode cX7_openSort 89 = .ok (.iaload, 1) := by decide +kernel
theorem dX7_openSort_90 : decode cX7_openSort 90 = .ok (.iconst (-1), 1) := by decide +kernel
theorem dX7_openSort_91 : decode cX7_openSort 91 = .ok (.if_icmp .eq 9, 3) := by decide +kernel
theorem dX7_openSort_94 : decode cX7_openSort 94 = .ok (.aload_n 0, 1) := by decide +kernel
theorem dX7_openSort_95 : decode cX7_openSort 95 = .ok (.invokevirtual 154, 3) := by decide +kernel
theorem dX7_openSort_98 : decode cX7_openSort 98 = .ok (.iconst (-1), 1) := by decide +kernel
theorem dX7_openSort_99 : decode cX7_openSort 99 = .ok (.ireturn, 1) := by decide +kernel
theorem dX7_openSort_100 : decode cX7_openSort 100 = .ok (.aload_n 0, 1) := by decide +kernel
theorem dX7_openSort_101 : decode cX7_openSort 101 = .ok (.getfield 33, 3) := by decide +kernel
theorem dX7_openSort_104 : decode cX7_openSort 104 = .ok (.iload_n 2, 1) := by decide +kernel
theorem dX7_openSort_105 : decode cX7_openSort 105 = .ok (.aload_n 0, 1) := by decide +kernel
theorem dX7_openSort_106 : decode cX7_openSort 106 = .ok (.getfield 56, 3) := by decide +kernel
theorem dX7_openSort_109 : decode cX7_openSort 109 = .ok (.iastore, 1) := by decide +kernel
theorem dX7_openSort_110 : decode cX7_openSort 110 = .ok (.aload_n 0, 1) := by decide +kernel
theorem dX7_openSort_111 : decode cX7_openSort 111 = .ok (.invokevirtual 157, 3) := by decide +kernel
theorem dX7_openSort_114 : decode cX7_openSort 114 = .ok (.iload_n 2, 1) := by decide +kernel
theorem dX7_openSort_115 : decode cX7_openSort 115 = .ok (.ireturn, 1) := by decide +kernel
theorem dX7_closeSort_0 : decode cX7_closeSort 0 = .ok (.iload_n 1, 1) := by decide +kernel
theorem dX7_closeSort_1 : decode cX7_closeSort 1 = .ok (.ifCond .lt 19, 3) := by decide +kernel
theorem dX7_closeSort_4 : decode cX7_closeSort 4 = .ok (.iload_n 1, 1) := by decide +kernel
theorem dX7_closeSort_5 : decode cX7_closeSort 5 = .ok (.bipush 14, 2) := by decide +kernel
theorem dX7_closeSort_7 : decode cX7_closeSort 7 = .ok (.if_icmp .ge 13, 3) := by decide +kernel
theorem dX7_closeSort_10 : decode cX7_closeSort 10 = .ok (.aload_n 0, 1) := by decide +kernel
theorem dX7_closeSort_11 : decode cX7_closeSort 11 = .ok (.getfield 36, 3) := by decide +kernel
theorem dX7_closeSort_14 : decode cX7_closeSort 14 = .ok (.iload_n 1, 1) := by decide +kernel
theorem dX7_closeSort_15 : decode cX7_closeSort 15 = .ok (.aload_n 0, 1) := by decide +kernel
theorem dX7_closeSort_16 : decode cX7_closeSort 16 = .ok (.getfield 56, 3) := by decide +kernel
theorem dX7_closeSort_19 : decode cX7_closeSort 19 = .ok (.iastore, 1) := by decide +kernel
theorem dX7_closeSort_20 : decode cX7_closeSort 20 = .ok (.return_, 1) := by decide +kernel
theorem dX7_readChoice_0 : decode cX7_readChoice 0 = .ok (.aload_n 0, 1) := by decide +kernel
theorem dX7_readChoice_1 : decode cX7_readChoice 1 = .ok (.invokevirtual 160, 3) := by decide +kernel
theorem dX7_readChoice_4 : decode cX7_readChoice 4 = .ok (.iload_n 1, 1) := by decide +kernel
theorem dX7_readChoice_5 : decode cX7_readChoice 5 = .ok (.isub, 1) := by decide +kernel
theorem dX7_readChoice_6 : decode cX7_readChoice 6 = .ok (.istore_n 2, 1) := by decide +kernel
theorem dX7_readChoice_7 : decode cX7_readChoice 7 = .ok (.iload_n 2, 1) := by decide +kernel
theorem dX7_readChoice_8 : decode cX7_readChoice 8 = .ok (.ifCond .eq 8, 3) := by decide +kernel
theorem dX7_readChoice_11 : decode cX7_readChoice 11 = .ok (.iload_n 2, 1) := by decide +kernel
theorem dX7_readChoice_12 : decode cX7_readChoice 12 = .ok (.iconst 1, 1) := by decide +kernel
theorem dX7_readChoice_13 : decode cX7_readChoice 13 = .ok (.if_icmp .ne 15, 3) := by decide +kernel
theorem dX7_readChoice_16 : decode cX7_readChoice 16 = .ok (.aload_n 0, 1) := by decide +kernel
theorem dX7_readChoice_17 : decode cX7_readChoice 17 = .ok (.iload_n 2, 1) := by decide +kernel
theorem dX7_readChoice_18 : decode cX7_readChoice 18 = .ok (.invokevirtual 185, 3) := by decide +kernel
theorem dX7_readChoice_21 : decode cX7_readChoice 21 = .ok (.aload_n 0, 1) := by decide +kernel
theorem dX7_readChoice_22 : decode cX7_readChoice 22 = .ok (.invokevirtual 157, 3) := by decide +kernel
theorem dX7_readChoice_25 : decode cX7_readChoice 25 = .ok (.goto 7, 3) := by decide +kernel
theorem dX7_readChoice_28 : decode cX7_readChoice 28 = .ok (.aload_n 0, 1) := by decide +kernel
theorem dX7_readChoice_29 : decode cX7_readChoice 29 = .ok (.invokevirtual 154, 3) := by decide +kernel
theorem dX7_readChoice_32 : decode cX7_readChoice 32 = .ok (.return_, 1) := by decide +kernel
theorem dX7_readEither_0 : decode cX7_readEither 0 = .ok (.aload_n 0, 1) := by decide +kernel
theorem dX7_readEither_1 : decode cX7_readEither 1 = .ok (.iload_n 1, 1) := by decide +kernel
theorem dX7_readEither_2 : decode cX7_readEither 2 = .ok (.invokevirtual 188, 3) := by decide +kernel
theorem dX7_readEither_5 : decode cX7_readEither 5 = .ok (.iconst 0, 1) := by decide +kernel
theorem dX7_readEither_6 : decode cX7_readEither 6 = .ok (.istore_n 2, 1) := by decide +kernel
theorem dX7_readEither_7 : decode cX7_readEither 7 = .ok (.iload_n 2, 1) := by decide +kernel
theorem dX7_readEither_8 : decode cX7_readEither 8 = .ok (.aload_n 0, 1) := by decide +kernel
theorem dX7_readEither_9 : decode cX7_readEither 9 = .ok (.getfield 43, 3) := by decide +kernel
theorem dX7_readEither_12 : decode cX7_readEither 12 = .ok (.if_icmp .ge 41, 3) := by decide +kernel
theorem dX7_readEither_15 : decode cX7_readEither 15 = .ok (.aload_n 0, 1) := by decide +kernel
theorem dX7_readEither_16 : decode cX7_readEither 16 = .ok (.getfield 50, 3) := by decide +kernel
theorem dX7_readEither_19 : decode cX7_readEither 19 = .ok (.iconst (-1), 1) := by decide +kernel
theorem dX7_readEither_20 : decode cX7_readEither 20 = .ok (.if_icmp .ne 33, 3) := by decide +kernel
theorem dX7_readEither_23 : decode cX7_readEither 23 = .ok (.aload_n 0, 1) := by decide +kernel
theorem dX7_readEither_24 : decode cX7_readEither 24 = .ok (.invokevirtual 160, 3) := by decide +kernel
theorem dX7_readEither_27 : decode cX7_readEither 27 = .ok (.bipush 25, 2) := by decide +kernel
theorem dX7_readEither_29 : decode cX7_readEither 29 = .ok (.if_icmp .ne 24, 3) := by decide +kernel
theorem dX7_readEither_32 : decode cX7_readEither 32 = .ok (.aload_n 0, 1) := by decide +kernel
theorem dX7_readEither_33 : decode cX7_readEither 33 = .ok (.invokevirtual 157, 3) := by decide +kernel
theorem dX7_readEither_36 : decode cX7_readEither 36 = .ok (.aload_n 0, 1) := by decide +kernel
theorem dX7_readEither_37 : decode cX7_readEither 37 = .ok (.iload_n 1, 1) := by decide +kernel
theorem dX7_readEither_38 : decode cX7_readEither 38 = .ok (.invokevirtual 188, 3) := by decide +kernel
theorem dX7_readEither_41 : decode cX7_readEither 41 = .ok (.aload_n 0, 1) := by decide +kernel
theorem dX7_readEither_42 : decode cX7_readEither 42 = .ok (.bipush (-19), 2) := by decide +kernel
theorem dX7_readEither_44 : decode cX7_readEither 44 = .ok (.invokevirtual 185, 3) := by decide +kernel
theorem dX7_readEither_47 : decode cX7_readEither 47 = .ok (.iinc 2 1, 3) := by decide +kernel
theorem dX7_readEither_50 : decode cX7_readEither 50 = .ok (.goto (-43), 3) := by decide +kernel
theorem dX7_readEither_53 : decode cX7_readEither 53 = .ok (.return_, 1) := by decide +kernel
theorem dX7_readBoth_0 : decode cX7_readBoth 0 = .ok (.aload_n 0, 1) := by decide +kernel
theorem dX7_readBoth_1 : decode cX7_readBoth 1 = .ok (.iload_n 1, 1) := by decide +kernel
theorem dX7_readBoth_2 : decode cX7_readBoth 2 = .ok (.invokevirtual 193, 3) := by decide +kernel
theorem dX7_readBoth_5 : decode cX7_readBoth 5 = .ok (.iconst 0, 1) := by decide +kernel
theorem dX7_readBoth_6 : decode cX7_readBoth 6 = .ok (.istore_n 2, 1) := by decide +kernel
theorem dX7_readBoth_7 : decode cX7_readBoth 7 = .ok (.iload_n 2, 1) := by decide +kernel
theorem dX7_readBoth_8 : decode cX7_readBoth 8 = .ok (.aload_n 0, 1) := by decide +kernel
theorem dX7_readBoth_9 : decode cX7_readBoth 9 = .ok (.getfield 43, 3) := by decide +kernel
theorem dX7_readBoth_12 : decode cX7_readBoth 12 = .ok (.if_icmp .ge 41, 3) := by decide +kernel
theorem dX7_readBoth_15 : decode cX7_readBoth 15 = .ok (.aload_n 0, 1) := by decide +kernel
theorem dX7_readBoth_16 : decode cX7_readBoth 16 = .ok (.getfield 50, 3) := by decide +kernel
theorem dX7_readBoth_19 : decode cX7_readBoth 19 = .ok (.iconst (-1), 1) := by decide +kernel
theorem dX7_readBoth_20 : decode cX7_readBoth 20 = .ok (.if_icmp .ne 33, 3) := by decide +kernel
theorem dX7_readBoth_23 : decode cX7_readBoth 23 = .ok (.aload_n 0, 1) := by decide +kernel
theorem dX7_readBoth_24 : decode cX7_readBoth 24 = .ok (.invokevirtual 160, 3) := by decide +kernel
theorem dX7_readBoth_27 : decode cX7_readBoth 27 = .ok (.bipush 26, 2) := by decide +kernel
theorem dX7_readBoth_29 : decode cX7_readBoth 29 = .ok (.if_icmp .ne 24, 3) := by decide +kernel
theorem dX7_readBoth_32 : decode cX7_readBoth 32 = .ok (.aload_n 0, 1) := by decide +kernel
theorem dX7_readBoth_33 : decode cX7_readBoth 33 = .ok (.invokevirtual 157, 3) := by decide +kernel
theorem dX7_readBoth_36 : decode cX7_readBoth 36 = .ok (.aload_n 0, 1) := by decide +kernel
theorem dX7_readBoth_37 : decode cX7_readBoth 37 = .ok (.iload_n 1, 1) := by decide +kernel
theorem dX7_readBoth_38 : decode cX7_readBoth 38 = .ok (.invokevirtual 193, 3) := by decide +kernel
theorem dX7_readBoth_41 : decode cX7_readBoth 41 = .ok (.aload_n 0, 1) := by decide +kernel
theorem dX7_readBoth_42 : decode cX7_readBoth 42 = .ok (.bipush (-18), 2) := by decide +kernel
theorem dX7_readBoth_44 : decode cX7_readBoth 44 = .ok (.invokevirtual 185, 3) := by decide +kernel
theorem dX7_readBoth_47 : decode cX7_readBoth 47 = .ok (.iinc 2 1, 3) := by decide +kernel
theorem dX7_readBoth_50 : decode cX7_readBoth 50 = .ok (.goto (-43), 3) := by decide +kernel
theorem dX7_readBoth_53 : decode cX7_readBoth 53 = .ok (.return_, 1) := by decide +kernel
theorem dX7_readBasic_0 : decode cX7_readBasic 0 = .ok (.aload_n 0, 1) := by decide +kernel
theorem dX7_readBasic_1 : decode cX7_readBasic 1 = .ok (.invokevirtual 160, 3) := by decide +kernel
theorem dX7_readBasic_4 : decode cX7_readBasic 4 = .ok (.bipush 27, 2) := by decide +kernel
theorem dX7_readBasic_6 : decode cX7_readBasic 6 = .ok (.if_icmp .ne 7, 3) := by decide +kernel
theorem dX7_readBasic_9 : decode cX7_readBasic 9 = .ok (.iconst 1, 1) := by decide +kernel
theorem dX7_readBasic_10 : decode cX7_readBasic 10 = .ok (.goto 4, 3) := by decide +kernel
theorem dX7_readBasic_13 : decode cX7_readBasic 13 = .ok (.iconst 0, 1) := by decide +kernel
theorem dX7_readBasic_14 : decode cX7_readBasic 14 = .ok (.istore_n 2, 1) := by decide +kernel
theorem dX7_readBasic_15 : decode cX7_readBasic 15 = .ok (.iload_n 2, 1) := by decide +kernel
theorem dX7_readBasic_16 : decode cX7_readBasic 16 = .ok (.ifCond .ne 18, 3) := by decide +kernel
theorem dX7_readBasic_19 : decode cX7_readBasic 19 = .ok (.aload_n 0, 1) := by decide +kernel
theorem dX7_readBasic_20 : decode cX7_readBasic 20 = .ok (.invokevirtual 68, 3) := by decide +kernel
theorem dX7_readBasic_23 : decode cX7_readBasic 23 = .ok (.bipush 91, 2) := by decide +kernel
theorem dX7_readBasic_25 : decode cX7_readBasic 25 = .ok (.if_icmp .eq 9, 3) := by decide +kernel
theorem dX7_readBasic_28 : decode cX7_readBasic 28 = .ok (.aload_n 0, 1) := by decide +kernel
theorem dX7_readBasic_29 : decode cX7_readBasic 29 = .ok (.iload_n 1, 1) := by decide +kernel
theorem dX7_readBasic_30 : decode cX7_readBasic 30 = .ok (.invokevirtual 196, 3) := by decide +kernel
theorem dX7_readBasic_33 : decode cX7_readBasic 33 = .ok (.return_, 1) := by decide +kernel
theorem dX7_readBasic_34 : decode cX7_readBasic 34 = .ok (.aload_n 0, 1) := by decide +kernel
theorem dX7_readBasic_35 : decode cX7_readBasic 35 = .ok (.getfield 50, 3) := by decide +kernel
theorem dX7_readBasic_38 : decode cX7_readBasic 38 = .ok (.iconst (-1), 1) := by decide +kernel
theorem dX7_readBasic_39 : decode cX7_readBasic 39 = .ok (.if_icmp .ne 9, 3) := by decide +kernel
theorem dX7_readBasic_42 : decode cX7_readBasic 42 = .ok (.iload_n 1, 1) := by decide +kernel
theorem dX7_readBasic_43 : decode cX7_readBasic 43 = .ok (.bipush 8, 2) := by decide +kernel
theorem dX7_readBasic_45 : decode cX7_readBasic 45 = .ok (.if_icmp .lt 8, 3) := by decide +kernel
theorem dX7_readBasic_48 : decode cX7_readBasic 48 = .ok (.aload_n 0, 1) := by decide +kernel
theorem dX7_readBasic_49 : decode cX7_readBasic 49 = .ok (.invokevirtual 154, 3) := by decide +kernel
theorem dX7_readBasic_52 : decode cX7_readBasic 52 = .ok (.return_, 1) := by decide +kernel
theorem dX7_readBasic_53 : decode cX7_readBasic 53 = .ok (.aload_n 0, 1) := by decide +kernel
theorem dX7_readBasic_54 : decode cX7_readBasic 54 = .ok (.invokevirtual 157, 3) := by decide +kernel
theorem dX7_readBasic_57 : decode cX7_readBasic 57 = .ok (.iload_n 2, 1) := by decide +kernel
theorem dX7_readBasic_58 : decode cX7_readBasic 58 = .ok (.ifCond .eq 19, 3) := by decide +kernel
theorem dX7_readBasic_61 : decode cX7_readBasic 61 = .ok (.aload_n 0, 1) := by decide +kernel
theorem dX7_readBasic_62 : decode cX7_readBasic 62 = .ok (.iload_n 1, 1) := by decide +kernel
theorem dX7_readBasic_63 : decode cX7_readBasic 63 = .ok (.iconst 1, 1) := by decide +kernel
theorem dX7_readBasic_64 : decode cX7_readBasic 64 = .ok (.iadd, 1) := by decide +kernel
theorem dX7_readBasic_65 : decode cX7_readBasic 65 = .ok (.invokevirtual 193, 3) := by decide +kernel
theorem dX7_readBasic_68 : decode cX7_readBasic 68 = .ok (.aload_n 0, 1) := by decide +kernel
theorem dX7_readBasic_69 : decode cX7_readBasic 69 = .ok (.bipush (-20), 2) := by decide +kernel
theorem dX7_readBasic_71 : decode cX7_readBasic 71 = .ok (.invokevirtual 185, 3) := by decide +kernel
theorem dX7_readBasic_74 : decode cX7_readBasic 74 = .ok (.goto 16, 3) := by decide +kernel
theorem dX7_readBasic_77 : decode cX7_readBasic 77 = .ok (.aload_n 0, 1) := by decide +kernel
theorem dX7_readBasic_78 : decode cX7_readBasic 78 = .ok (.iload_n 1, 1) := by decide +kernel
theorem dX7_readBasic_79 : decode cX7_readBasic 79 = .ok (.iconst 1, 1) := by decide +kernel
theorem dX7_readBasic_80 : decode cX7_readBasic 80 = .ok (.iadd, 1) := by decide +kernel
theorem dX7_readBasic_81 : decode cX7_readBasic 81 = .ok (.invokevirtual 173, 3) := by decide +kernel
theorem dX7_readBasic_84 : decode cX7_readBasic 84 = .ok (.aload_n 0, 1) := by decide +kernel
theorem dX7_readBasic_85 : decode cX7_readBasic 85 = .ok (.bipush 93, 2) := by decide +kernel
theorem dX7_readBasic_87 : decode cX7_readBasic 87 = .ok (.invokevirtual 182, 3) := by decide +kernel
theorem dX7_readBasic_90 : decode cX7_readBasic 90 = .ok (.return_, 1) := by decide +kernel
theorem dX7_readComparison_0 : decode cX7_readComparison 0 = .ok (.aload_n 0, 1) := by decide +kernel
theorem dX7_readComparison_1 : decode cX7_readComparison 1 = .ok (.iload_n 1, 1) := by decide +kernel
theorem dX7_readComparison_2 : decode cX7_readComparison 2 = .ok (.invokevirtual 176, 3) := by decide +kernel
theorem dX7_readComparison_5 : decode cX7_readComparison 5 = .ok (.aload_n 0, 1) := by decide +kernel
theorem dX7_readComparison_6 : decode cX7_readComparison 6 = .ok (.invokevirtual 68, 3) := by decide +kernel
theorem dX7_readComparison_9 : decode cX7_readComparison 9 = .ok (.istore_n 2, 1) := by decide +kernel
theorem dX7_readComparison_10 : decode cX7_readComparison 10 = .ok (.iload_n 2, 1) := by decide +kernel
theorem dX7_readComparison_11 : decode cX7_readComparison 11 = .ok (.bipush 60, 2) := by decide +kernel
theorem dX7_readComparison_13 : decode cX7_readComparison 13 = .ok (.if_icmp .eq 20, 3) := by decide +kernel
theorem dX7_readComparison_16 : decode cX7_readComparison 16 = .ok (.iload_n 2, 1) := by decide +kernel
theorem dX7_readComparison_17 : decode cX7_readComparison 17 = .ok (.bipush 62, 2) := by decide +kernel
theorem dX7_readComparison_19 : decode cX7_readComparison 19 = .ok (.if_icmp .eq 14, 3) := by decide +kernel
theorem dX7_readComparison_22 : decode cX7_readComparison 22 = .ok (.iload_n 2, 1) := by decide +kernel
theorem dX7_readComparison_23 : decode cX7_readComparison 23 = .ok (.bipush 61, 2) := by decide +kernel
theorem dX7_readComparison_25 : decode cX7_readComparison 25 = .ok (.if_icmp .eq 8, 3) := by decide +kernel
theorem dX7_readComparison_28 : decode cX7_readComparison 28 = .ok (.aload_n 0, 1) := by decide +kernel
theorem dX7_readComparison_29 : decode cX7_readComparison 29 = .ok (.invokevirtual 154, 3) := by decide +kernel
theorem dX7_readComparison_32 : decode cX7_readComparison 32 = .ok (.return_, 1) := by decide +kernel
theorem dX7_readComparison_33 : decode cX7_readComparison 33 = .ok (.aload_n 0, 1) := by decide +kernel
theorem dX7_readComparison_34 : decode cX7_readComparison 34 = .ok (.invokevirtual 157, 3) := by decide +kernel
theorem dX7_readComparison_37 : decode cX7_readComparison 37 = .ok (.aload_n 0, 1) := by decide +kernel
theorem dX7_readComparison_38 : decode cX7_readComparison 38 = .ok (.iload_n 1, 1) := by decide +kernel
theorem dX7_readComparison_39 : decode cX7_readComparison 39 = .ok (.invokevirtual 176, 3) := by decide +kernel
theorem dX7_readComparison_42 : decode cX7_readComparison 42 = .ok (.aload_n 0, 1) := by decide +kernel
theorem dX7_readComparison_43 : decode cX7_readComparison 43 = .ok (.iload_n 2, 1) := by decide +kernel
theorem dX7_readComparison_44 : decode cX7_readComparison 44 = .ok (.bipush 60, 2) := by decide +kernel
theorem dX7_readComparison_46 : decode cX7_readComparison 46 = .ok (.if_icmp .ne 8, 3) := by decide +kernel
theorem dX7_readComparison_49 : decode cX7_readComparison 49 = .ok (.bipush (-15), 2) := by decide +kernel
theorem dX7_readComparison_51 : decode cX7_readComparison 51 = .ok (.goto 16, 3) := by decide +kernel
theorem dX7_readComparison_54 : decode cX7_readComparison 54 = .ok (.iload_n 2, 1) := by decide +kernel
theorem dX7_readComparison_55 : decode cX7_readComparison 55 = .ok (.bipush 62, 2) := by decide +kernel
theorem dX7_readComparison_57 : decode cX7_readComparison 57 = .ok (.if_icmp .ne 8, 3) := by decide +kernel
theorem dX7_readComparison_60 : decode cX7_readComparison 60 = .ok (.bipush (-16), 2) := by decide +kernel
theorem dX7_readComparison_62 : decode cX7_readComparison 62 = .ok (.goto 5, 3) := by decide +kernel
theorem dX7_readComparison_65 : decode cX7_readComparison 65 = .ok (.bipush (-17), 2) := by decide +kernel
theorem dX7_readComparison_67 : decode cX7_readComparison 67 = .ok (.invokevirtual 185, 3) := by decide +kernel
theorem dX7_readComparison_70 : decode cX7_readComparison 70 = .ok (.return_, 1) := by decide +kernel
theorem dX7_readSum_0 : decode cX7_readSum 0 = .ok (.aload_n 0, 1) := by decide +kernel
theorem dX7_readSum_1 : decode cX7_readSum 1 = .ok (.iload_n 1, 1) := by decide +kernel
theorem dX7_readSum_2 : decode cX7_readSum 2 = .ok (.invokevirtual 199, 3) := by decide +kernel
theorem dX7_readSum_5 : decode cX7_readSum 5 = .ok (.iconst 0, 1) := by decide +kernel
theorem dX7_readSum_6 : decode cX7_readSum 6 = .ok (.istore_n 2, 1) := by decide +kernel
theorem dX7_readSum_7 : decode cX7_readSum 7 = .ok (.iload_n 2, 1) := by decide +kernel
theorem dX7_readSum_8 : decode cX7_readSum 8 = .ok (.aload_n 0, 1) := by decide +kernel
theorem dX7_readSum_9 : decode cX7_readSum 9 = .ok (.getfield 43, 3) := by decide +kernel
theorem dX7_readSum_12 : decode cX7_readSum 12 = .ok (.if_icmp .ge 66, 3) := by decide +kernel
theorem dX7_readSum_15 : decode cX7_readSum 15 = .ok (.aload_n 0, 1) := by decide +kernel
theorem dX7_readSum_16 : decode cX7_readSum 16 = .ok (.getfield 50, 3) := by decide +kernel
theorem dX7_readSum_19 : decode cX7_readSum 19 = .ok (.iconst (-1), 1) := by decide +kernel
theorem dX7_readSum_20 : decode cX7_readSum 20 = .ok (.if_icmp .ne 58, 3) := by decide +kernel
theorem dX7_readSum_23 : decode cX7_readSum 23 = .ok (.aload_n 0, 1) := by decide +kernel
theorem dX7_readSum_24 : decode cX7_readSum 24 = .ok (.invokevirtual 68, 3) := by decide +kernel
theorem dX7_readSum_27 : decode cX7_readSum 27 = .ok (.bipush 43, 2) := by decide +kernel
theorem dX7_readSum_29 : decode cX7_readSum 29 = .ok (.if_icmp .eq 12, 3) := by decide +kernel
theorem dX7_readSum_32 : decode cX7_readSum 32 = .ok (.aload_n 0, 1) := by decide +kernel
theorem dX7_readSum_33 : decode cX7_readSum 33 = .ok (.invokevirtual 68, 3) := by decide +kernel
theorem dX7_readSum_36 : decode cX7_readSum 36 = .ok (.bipush 45, 2) := by decide +kernel
theorem dX7_readSum_38 : decode cX7_readSum 38 = .ok (.if_icmp .ne 40, 3) := by decide +kernel
theorem dX7_readSum_41 : decode cX7_readSum 41 = .ok (.aload_n 0, 1) := by decide +kernel
theorem dX7_readSum_42 : decode cX7_readSum 42 = .ok (.invokevirtual 68, 3) := by decide +kernel
theorem dX7_readSum_45 : decode cX7_readSum 45 = .ok (.bipush 43, 2) := by decide +kernel
theorem dX7_readSum_47 : decode cX7_readSum 47 = .ok (.if_icmp .ne 8, 3) := by decide +kernel
theorem dX7_readSum_50 : decode cX7_readSum 50 = .ok (.bipush (-11), 2) := by decide +kernel
theorem dX7_readSum_52 : decode cX7_readSum 52 = .ok (.goto 5, 3) := by decide +kernel
theorem dX7_readSum_55 : decode cX7_readSum 55 = .ok (.bipush (-12), 2) := by decide +kernel
theorem dX7_readSum_57 : decode cX7_readSum 57 = .ok (.istore_n 3, 1) := by decide +kernel
theorem dX7_readSum_58 : decode cX7_readSum 58 = .ok (.aload_n 0, 1) := by decide +kernel
theorem dX7_readSum_59 : decode cX7_readSum 59 = .ok (.invokevirtual 157, 3) := by decide +kernel
theorem dX7_readSum_62 : decode cX7_readSum 62 = .ok (.aload_n 0, 1) := by decide +kernel
theorem dX7_readSum_63 : decode cX7_readSum 63 = .ok (.iload_n 1, 1) := by decide +kernel
theorem dX7_readSum_64 : decode cX7_readSum 64 = .ok (.invokevirtual 199, 3) := by decide +kernel
theorem dX7_readSum_67 : decode cX7_readSum 67 = .ok (.aload_n 0, 1) := by decide +kernel
theorem dX7_readSum_68 : decode cX7_readSum 68 = .ok (.iload_n 3, 1) := by decide +kernel
theorem dX7_readSum_69 : decode cX7_readSum 69 = .ok (.invokevirtual 185, 3) := by decide +kernel
theorem dX7_readSum_72 : decode cX7_readSum 72 = .ok (.iinc 2 1, 3) := by decide +kernel
theorem dX7_readSum_75 : decode cX7_readSum 75 = .ok (.goto (-68), 3) := by decide +kernel
theorem dX7_readSum_78 : decode cX7_readSum 78 = .ok (.return_, 1) := by decide +kernel
theorem dX7_readProduct_0 : decode cX7_readProduct 0 = .ok (.aload_n 0, 1) := by decide +kernel
theorem dX7_readProduct_1 : decode cX7_readProduct 1 = .ok (.iload_n 1, 1) := by decide +kernel
theorem dX7_readProduct_2 : decode cX7_readProduct 2 = .ok (.invokevirtual 202, 3) := by decide +kernel
theorem dX7_readProduct_5 : decode cX7_readProduct 5 = .ok (.iconst 0, 1) := by decide +kernel
theorem dX7_readProduct_6 : decode cX7_readProduct 6 = .ok (.istore_n 2, 1) := by decide +kernel
theorem dX7_readProduct_7 : decode cX7_readProduct 7 = .ok (.iload_n 2, 1) := by decide +kernel
theorem dX7_readProduct_8 : decode cX7_readProduct 8 = .ok (.aload_n 0, 1) := by decide +kernel
theorem dX7_readProduct_9 : decode cX7_readProduct 9 = .ok (.getfield 43, 3) := by decide +kernel
theorem dX7_readProduct_12 : decode cX7_readProduct 12 = .ok (.if_icmp .ge 66, 3) := by decide +kernel
theorem dX7_readProduct_15 : decode cX7_readProduct 15 = .ok (.aload_n 0, 1) := by decide +kernel
theorem dX7_readProduct_16 : decode cX7_readProduct 16 = .ok (.getfield 50, 3) := by decide +kernel
theorem dX7_readProduct_19 : decode cX7_readProduct 19 = .ok (.iconst (-1), 1) := by decide +kernel
theorem dX7_readProduct_20 : decode cX7_readProduct 20 = .ok (.if_icmp .ne 58, 3) := by decide +kernel
theorem dX7_readProduct_23 : decode cX7_readProduct 23 = .ok (.aload_n 0, 1) := by decide +kernel
theorem dX7_readProduct_24 : decode cX7_readProduct 24 = .ok (.invokevirtual 68, 3) := by decide +kernel
theorem dX7_readProduct_27 : decode cX7_readProduct 27 = .ok (.bipush 42, 2) := by decide +kernel
theorem dX7_readProduct_29 : decode cX7_readProduct 29 = .ok (.if_icmp .eq 12, 3) := by decide +kernel
theorem dX7_readProduct_32 : decode cX7_readProduct 32 = .ok (.aload_n 0, 1) := by decide +kernel
theorem dX7_readProduct_33 : decode cX7_readProduct 33 = .ok (.invokevirtual 68, 3) := by decide +kernel
theorem dX7_readProduct_36 : decode cX7_readProduct 36 = .ok (.bipush 47, 2) := by decide +kernel
theorem dX7_readProduct_38 : decode cX7_readProduct 38 = .ok (.if_icmp .ne 40, 3) := by decide +kernel
theorem dX7_readProduct_41 : decode cX7_readProduct 41 = .ok (.aload_n 0, 1) := by decide +kernel
theorem dX7_readProduct_42 : decode cX7_readProduct 42 = .ok (.invokevirtual 68, 3) := by decide +kernel
theorem dX7_readProduct_45 : decode cX7_readProduct 45 = .ok (.bipush 42, 2) := by decide +kernel
theorem dX7_readProduct_47 : decode cX7_readProduct 47 = .ok (.if_icmp .ne 8, 3) := by decide +kernel
theorem dX7_readProduct_50 : decode cX7_readProduct 50 = .ok (.bipush (-13), 2) := by decide +kernel
theorem dX7_readProduct_52 : decode cX7_readProduct 52 = .ok (.goto 5, 3) := by decide +kernel
theorem dX7_readProduct_55 : decode cX7_readProduct 55 = .ok (.bipush (-14), 2) := by decide +kernel
theorem dX7_readProduct_57 : decode cX7_readProduct 57 = .ok (.istore_n 3, 1) := by decide +kernel
theorem dX7_readProduct_58 : decode cX7_readProduct 58 = .ok (.aload_n 0, 1) := by decide +kernel
theorem dX7_readProduct_59 : decode cX7_readProduct 59 = .ok (.invokevirtual 157, 3) := by decide +kernel
theorem dX7_readProduct_62 : decode cX7_readProduct 62 = .ok (.aload_n 0, 1) := by decide +kernel
theorem dX7_readProduct_63 : decode cX7_readProduct 63 = .ok (.iload_n 1, 1) := by decide +kernel
theorem dX7_readProduct_64 : decode cX7_readProduct 64 = .ok (.invokevirtual 202, 3) := by decide +kernel
theorem dX7_readProduct_67 : decode cX7_readProduct 67 = .ok (.aload_n 0, 1) := by decide +kernel
theorem dX7_readProduct_68 : decode cX7_readProduct 68 = .ok (.iload_n 3, 1) := by decide +kernel
theorem dX7_readProduct_69 : decode cX7_readProduct 69 = .ok (.invokevirtual 185, 3) := by decide +kernel
theorem dX7_readProduct_72 : decode cX7_readProduct 72 = .ok (.iinc 2 1, 3) := by decide +kernel
theorem dX7_readProduct_75 : decode cX7_readProduct 75 = .ok (.goto (-68), 3) := by decide +kernel
theorem dX7_readProduct_78 : decode cX7_readProduct 78 = .ok (.return_, 1) := by decide +kernel
theorem dX7_readFactor_0 : decode cX7_readFactor 0 = .ok (.aload_n 0, 1) := by decide +kernel
theorem dX7_readFactor_1 : decode cX7_readFactor 1 = .ok (.getfield 50, 3) := by decide +kernel
theorem dX7_readFactor_4 : decode cX7_readFactor 4 = .ok (.iconst (-1), 1) := by decide +kernel
theorem dX7_readFactor_5 : decode cX7_readFactor 5 = .ok (.if_icmp .eq 4, 3) := by decide +kernel
theorem dX7_readFactor_8 : decode cX7_readFactor 8 = .ok (.return_, 1) := by decide +kernel
theorem dX7_readFactor_9 : decode cX7_readFactor 9 = .ok (.aload_n 0, 1) := by decide +kernel
theorem dX7_readFactor_10 : decode cX7_readFactor 10 = .ok (.invokevirtual 68, 3) := by decide +kernel
theorem dX7_readFactor_13 : decode cX7_readFactor 13 = .ok (.istore_n 2, 1) := by decide +kernel
theorem dX7_readFactor_14 : decode cX7_readFactor 14 = .ok (.aload_n 0, 1) := by decide +kernel
theorem dX7_readFactor_15 : decode cX7_readFactor 15 = .ok (.invokevirtual 160, 3) := by decide +kernel
theorem dX7_readFactor_18 : decode cX7_readFactor 18 = .ok (.istore_n 3, 1) := by decide +kernel
theorem dX7_readFactor_19 : decode cX7_readFactor 19 = .ok (.iload_n 3, 1) := by decide +kernel
theorem dX7_readFactor_20 : decode cX7_readFactor 20 = .ok (.bipush 12, 2) := by decide +kernel
theorem dX7_readFactor_22 : decode cX7_readFactor 22 = .ok (.if_icmp .lt 26, 3) := by decide +kernel
theorem dX7_readFactor_25 : decode cX7_readFactor 25 = .ok (.iload_n 3, 1) := by decide +kernel
theorem dX7_readFactor_26 : decode cX7_readFactor 26 = .ok (.bipush 20, 2) := by decide +kernel
theorem dX7_readFactor_28 : decode cX7_readFactor 28 = .ok (.if_icmp .gt 20, 3) := by decide +kernel
theorem dX7_readFactor_31 : decode cX7_readFactor 31 = .ok (.aload_n 0, 1) := by decide +kernel
theorem dX7_readFactor_32 : decode cX7_readFactor 32 = .ok (.iconst (-1), 1) := by decide +kernel
theorem dX7_readFactor_33 : decode cX7_readFactor 33 = .ok (.iload_n 3, 1) := by decide +kernel
theorem dX7_readFactor_34 : decode cX7_readFactor 34 = .ok (.bipush 12, 2) := by decide +kernel
theorem dX7_readFactor_36 : decode cX7_readFactor 36 = .ok (.isub, 1) := by decide +kernel
theorem dX7_readFactor_37 : decode cX7_readFactor 37 = .ok (.isub, 1) := by decide +kernel
theorem dX7_readFactor_38 : decode cX7_readFactor 38 = .ok (.invokevirtual 185, 3) := by decide +kernel
theorem dX7_readFactor_41 : decode cX7_readFactor 41 = .ok (.aload_n 0, 1) := by decide +kernel
theorem dX7_readFactor_42 : decode cX7_readFactor 42 = .ok (.invokevirtual 157, 3) := by decide +kernel
theorem dX7_readFactor_45 : decode cX7_readFactor 45 = .ok (.goto 78, 3) := by decide +kernel
theorem dX7_readFactor_48 : decode cX7_readFactor 48 = .ok (.iload_n 2, 1) := by decide +kernel
theorem dX7_readFactor_49 : decode cX7_readFactor 49 = .ok (.iconst 2, 1) := by decide +kernel
theorem dX7_readFactor_50 : decode cX7_readFactor 50 = .ok (.if_icmp .ne 37, 3) := by decide +kernel
theorem dX7_readFactor_53 : decode cX7_readFactor 53 = .ok (.aload_n 0, 1) := by decide +kernel
theorem dX7_readFactor_54 : decode cX7_readFactor 54 = .ok (.getfield 25, 3) := by decide +kernel
theorem dX7_readFactor_57 : decode cX7_readFactor 57 = .ok (.aload_n 0, 1) := by decide +kernel
theorem dX7_readFactor_58 : decode cX7_readFactor 58 = .ok (.getfield 53, 3) := by decide +kernel
theorem dX7_readFactor_61 : decode cX7_readFactor 61 = .ok (.iaload, 1) := by decide +kernel
theorem dX7_readFactor_62 : decode cX7_readFactor 62 = .ok (.ldc 140, 2) := by decide +kernel
theorem dX7_readFactor_64 : decode cX7_readFactor 64 = .ok (.if_icmp .gt 23, 3) := by decide +kernel
theorem dX7_readFactor_67 : decode cX7_readFactor 67 = .ok (.aload_n 0, 1) := by decide +kernel
theorem dX7_readFactor_68 : decode cX7_readFactor 68 = .ok (.aload_n 0, 1) := by decide +kernel
theorem dX7_readFactor_69 : decode cX7_readFactor 69 = .ok (.getfield 25, 3) := by decide +kernel
theorem dX7_readFactor_72 : decode cX7_readFactor 72 = .ok (.aload_n 0, 1) := by decide +kernel
theorem dX7_readFactor_73 : decode cX7_readFactor 73 = .ok (.getfield 53, 3) := by decide +kernel
theorem dX7_readFactor_76 : decode cX7_readFactor 76 = .ok (.iaload, 1) := by decide +kernel
theorem dX7_readFactor_77 : decode cX7_readFactor 77 = .ok (.invokevirtual 185, 3) := by decide +kernel
theorem dX7_readFactor_80 : decode cX7_readFactor 80 = .ok (.aload_n 0, 1) := by decide +kernel
theorem dX7_readFactor_81 : decode cX7_readFactor 81 = .ok (.invokevirtual 157, 3) := by decide +kernel
theorem dX7_readFactor_84 : decode cX7_readFactor 84 = .ok (.goto 39, 3) := by decide +kernel
theorem dX7_readFactor_87 : decode cX7_readFactor 87 = .ok (.iload_n 2, 1) := by decide +kernel
theorem dX7_readFactor_88 : decode cX7_readFactor 88 = .ok (.bipush 40, 2) := by decide +kernel
theorem dX7_readFactor_90 : decode cX7_readFactor 90 = .ok (.if_icmp .ne 29, 3) := by decide +kernel
theorem dX7_readFactor_93 : decode cX7_readFactor 93 = .ok (.iload_n 1, 1) := by decide +kernel
theorem dX7_readFactor_94 : decode cX7_readFactor 94 = .ok (.bipush 8, 2) := by decide +kernel
theorem dX7_readFactor_96 : decode cX7_readFactor 96 = .ok (.if_icmp .ge 23, 3) := by decide +kernel
theorem dX7_readFactor_99 : decode cX7_readFactor 99 = .ok (.aload_n 0, 1) := by decide +kernel
theorem dX7_readFactor_100 : decode cX7_readFactor 100 = .ok (.invokevirtual 157, 3) := by decide +kernel
theorem dX7_readFactor_103 : decode cX7_readFactor 103 = .ok (.aload_n 0, 1) := by decide +kernel
theorem dX7_readFactor_104 : decode cX7_readFactor 104 = .ok (.iload_n 1, 1) := by decide +kernel
theorem dX7_readFactor_105 : decode cX7_readFactor 105 = .ok (.iconst 1, 1) := by decide +kernel
theorem dX7_readFactor_106 : decode cX7_readFactor 106 = .ok (.iadd, 1) := by decide +kernel
theorem dX7_readFactor_107 : decode cX7_readFactor 107 = .ok (.invokevirtual 176, 3) := by decide +kernel
theorem dX7_readFactor_110 : decode cX7_readFactor 110 = .ok (.aload_n 0, 1) := by decide +kernel
theorem dX7_readFactor_111 : decode cX7_readFactor 111 = .ok (.bipush 41, 2) := by decide +kernel
theorem dX7_readFactor_113 : decode cX7_readFactor 113 = .ok (.invokevirtual 182, 3) := by decide +kernel
theorem dX7_readFactor_116 : decode cX7_readFactor 116 = .ok (.goto 7, 3) := by decide +kernel
theorem dX7_readFactor_119 : decode cX7_readFactor 119 = .ok (.aload_n 0, 1) := by decide +kernel
theorem dX7_readFactor_120 : decode cX7_readFactor 120 = .ok (.invokevirtual 154, 3) := by decide +kernel
theorem dX7_readFactor_123 : decode cX7_readFactor 123 = .ok (.return_, 1) := by decide +kernel
theorem dX8_init_0 : decode cX8_init 0 = .ok (.aload_n 0, 1) := by decide +kernel
theorem dX8_init_1 : decode cX8_init 1 = .ok (.invokespecial 3, 3) := by decide +kernel
theorem dX8_init_4 : decode cX8_init 4 = .ok (.aload_n 0, 1) := by decide +kernel
theorem dX8_init_5 : decode cX8_init 5 = .ok (.bipush 12, 2) := by decide +kernel
theorem dX8_init_7 : decode cX8_init 7 = .ok (.anewarray 11, 3) := by decide +kernel
theorem dX8_init_10 : decode cX8_init 10 = .ok (.putfield 13, 3) := by decide +kernel
theorem dX8_init_13 : decode cX8_init 13 = .ok (.aload_n 0, 1) := by decide +kernel
theorem dX8_init_14 : decode cX8_init 14 = .ok (.bipush 20, 2) := by decide +kernel
theorem dX8_init_16 : decode cX8_init 16 = .ok (.newarray .int, 2) := by decide +kernel
theorem dX8_init_18 : decode cX8_init 18 = .ok (.putfield 17, 3) := by decide +kernel
theorem dX8_init_21 : decode cX8_init 21 = .ok (.aload_n 0, 1) := by decide +kernel
theorem dX8_init_22 : decode cX8_init 22 = .ok (.bipush 20, 2) := by decide +kernel
theorem dX8_init_24 : decode cX8_init 24 = .ok (.newarray .int, 2) := by decide +kernel
theorem dX8_init_26 : decode cX8_init 26 = .ok (.putfield 21, 3) := by decide +kernel
theorem dX8_init_29 : decode cX8_init 29 = .ok (.aload_n 0, 1) := by decide +kernel
theorem dX8_init_30 : decode cX8_init 30 = .ok (.bipush 20, 2) := by decide +kernel
theorem dX8_init_32 : decode cX8_init 32 = .ok (.newarray .int, 2) := by decide +kernel
theorem dX8_init_34 : decode cX8_init 34 = .ok (.putfield 24, 3) := by decide +kernel
theorem dX8_init_37 : decode cX8_init 37 = .ok (.aload_n 0, 1) := by decide +kernel
theorem dX8_init_38 : decode cX8_init 38 = .ok (.bipush 9, 2) := by decide +kernel
theorem dX8_init_40 : decode cX8_init 40 = .ok (.newarray .int, 2) := by decide +kernel
theorem dX8_init_42 : decode cX8_init 42 = .ok (.putfield 27, 3) := by decide +kernel
theorem dX8_init_45 : decode cX8_init 45 = .ok (.aload_n 0, 1) := by decide +kernel
theorem dX8_init_46 : decode cX8_init 46 = .ok (.bipush 64, 2) := by decide +kernel
theorem dX8_init_48 : decode cX8_init 48 = .ok (.newarray .int, 2) := by decide +kernel
theorem dX8_init_50 : decode cX8_init 50 = .ok (.putfield 30, 3) := by decide +kernel
theorem dX8_init_53 : decode cX8_init 53 = .ok (.return_, 1) := by decide +kernel
theorem dX8_hasRoomForSheet_0 : decode cX8_hasRoomForSheet 0 = .ok (.aload_n 0, 1) := by decide +kernel
theorem dX8_hasRoomForSheet_1 : decode cX8_hasRoomForSheet 1 = .ok (.getfield 33, 3) := by decide +kernel
theorem dX8_hasRoomForSheet_4 : decode cX8_hasRoomForSheet 4 = .ok (.bipush 12, 2) := by decide +kernel
theorem dX8_hasRoomForSheet_6 : decode cX8_hasRoomForSheet 6 = .ok (.if_icmp .ge 7, 3) := by decide +kernel
theorem dX8_hasRoomForSheet_9 : decode cX8_hasRoomForSheet 9 = .ok (.iconst 1, 1) := by decide +kernel
theorem dX8_hasRoomForSheet_10 : decode cX8_hasRoomForSheet 10 = .ok (.goto 4, 3) := by decide +kernel
theorem dX8_hasRoomForSheet_13 : decode cX8_hasRoomForSheet 13 = .ok (.iconst 0, 1) := by decide +kernel
theorem dX8_hasRoomForSheet_14 : decode cX8_hasRoomForSheet 14 = .ok (.ireturn, 1) := by decide +kernel
theorem dX8_keep_0 : decode cX8_keep 0 = .ok (.aload_n 0, 1) := by decide +kernel
theorem dX8_keep_1 : decode cX8_keep 1 = .ok (.getfield 33, 3) := by decide +kernel
theorem dX8_keep_4 : decode cX8_keep 4 = .ok (.ifCond .lt 12, 3) := by decide +kernel
theorem dX8_keep_7 : decode cX8_keep 7 = .ok (.aload_n 0, 1) := by decide +kernel
theorem dX8_keep_8 : decode cX8_keep 8 = .ok (.getfield 33, 3) := by decide +kernel
theorem dX8_keep_11 : decode cX8_keep 11 = .ok (.bipush 12, 2) := by decide +kernel
theorem dX8_keep_13 : decode cX8_keep 13 = .ok (.if_icmp .lt 5, 3) := by decide +kernel
theorem dX8_keep_16 : decode cX8_keep 16 = .ok (.iconst (-1), 1) := by decide +kernel
theorem dX8_keep_17 : decode cX8_keep 17 = .ok (.ireturn, 1) := by decide +kernel
theorem dX8_keep_18 : decode cX8_keep 18 = .ok (.aload_n 0, 1) := by decide +kernel
theorem dX8_keep_19 : decode cX8_keep 19 = .ok (.getfield 13, 3) := by decide +kernel
theorem dX8_keep_22 : decode cX8_keep 22 = .ok (.aload_n 0, 1) := by decide +kernel
theorem dX8_keep_23 : decode cX8_keep 23 = .ok (.getfield 33, 3) := by decide +kernel
theorem dX8_keep_26 : decode cX8_keep 26 = .ok (.aload_n 1, 1) := by decide +kernel
theorem dX8_keep_27 : decode cX8_keep 27 = .ok (.aastore, 1) := by decide +kernel
theorem dX8_keep_28 : decode cX8_keep 28 = .ok (.aload_n 0, 1) := by decide +kernel
theorem dX8_keep_29 : decode cX8_keep 29 = .ok (.dup, 1) := by decide +kernel
theorem dX8_keep_30 : decode cX8_keep 30 = .ok (.getfield 33, 3) := by decide +kernel
theorem dX8_keep_33 : decode cX8_keep 33 = .ok (.iconst 1, 1) := by decide +kernel
theorem dX8_keep_34 : decode cX8_keep 34 = .ok (.iadd, 1) := by decide +kernel
theorem dX8_keep_35 : decode cX8_keep 35 = .ok (.putfield 33, 3) := by decide +kernel
theorem dX8_keep_38 : decode cX8_keep 38 = .ok (.aload_n 0, 1) := by decide +kernel
theorem dX8_keep_39 : decode cX8_keep 39 = .ok (.getfield 33, 3) := by decide +kernel
theorem dX8_keep_42 : decode cX8_keep 42 = .ok (.iconst 1, 1) := by decide +kernel
theorem dX8_keep_43 : decode cX8_keep 43 = .ok (.isub, 1) := by decide +kernel
theorem dX8_keep_44 : decode cX8_keep 44 = .ok (.ireturn, 1) := by decide +kernel
theorem dX8_put_0 : decode cX8_put 0 = .ok (.iload_n 1, 1) := by decide +kernel
theorem dX8_put_1 : decode cX8_put 1 = .ok (.ifCond .lt 27, 3) := by decide +kernel
theorem dX8_put_4 : decode cX8_put 4 = .ok (.iload_n 1, 1) := by decide +kernel
theorem dX8_put_5 : decode cX8_put 5 = .ok (.aload_n 0, 1) := by decide +kernel
theorem dX8_put_6 : decode cX8_put 6 = .ok (.getfield 33, 3) := by decide +kernel
theorem dX8_put_9 : decode cX8_put 9 = .ok (.if_icmp .ge 19, 3) := by decide +kernel
theorem dX8_put_12 : decode cX8_put 12 = .ok (.aload_n 0, 1) := by decide +kernel
theorem dX8_put_13 : decode cX8_put 13 = .ok (.getfield 37, 3) := by decide +kernel
theorem dX8_put_16 : decode cX8_put 16 = .ok (.ifCond .lt 12, 3) := by decide +kernel
theorem dX8_put_19 : decode cX8_put 19 = .ok (.aload_n 0, 1) := by decide +kernel
theorem dX8_put_20 : decode cX8_put 20 = .ok (.getfield 37, 3) := by decide +kernel
theorem dX8_put_23 : decode cX8_put 23 = .ok (.bipush 20, 2) := by decide +kernel
theorem dX8_put_25 : decode cX8_put 25 = .ok (.if_icmp .lt 5, 3) := by decide +kernel
theorem dX8_put_28 : decode cX8_put 28 = .ok (.iconst (-1), 1) := by decide +kernel
theorem dX8_put_29 : decode cX8_put 29 = .ok (.ireturn, 1) := by decide +kernel
theorem dX8_put_30 : decode cX8_put 30 = .ok (.aload_n 0, 1) := by decide +kernel
theorem dX8_put_31 : decode cX8_put 31 = .ok (.getfield 17, 3) := by decide +kernel
theorem dX8_put_34 : decode cX8_put 34 = .ok (.aload_n 0, 1) := by decide +kernel
theorem dX8_put_35 : decode cX8_put 35 = .ok (.getfield 37, 3) := by decide +kernel
theorem dX8_put_38 : decode cX8_put 38 = .ok (.iload_n 1, 1) := by decide +kernel
theorem dX8_put_39 : decode cX8_put 39 = .ok (.iastore, 1) := by decide +kernel
theorem dX8_put_40 : decode cX8_put 40 = .ok (.aload_n 0, 1) := by decide +kernel
theorem dX8_put_41 : decode cX8_put 41 = .ok (.getfield 21, 3) := by decide +kernel
theorem dX8_put_44 : decode cX8_put 44 = .ok (.aload_n 0, 1) := by decide +kernel
theorem dX8_put_45 : decode cX8_put 45 = .ok (.getfield 37, 3) := by decide +kernel
theorem dX8_put_48 : decode cX8_put 48 = .ok (.iload_n 2, 1) := by decide +kernel
theorem dX8_put_49 : decode cX8_put 49 = .ok (.iastore, 1) := by decide +kernel
theorem dX8_put_50 : decode cX8_put 50 = .ok (.aload_n 0, 1) := by decide +kernel
theorem dX8_put_51 : decode cX8_put 51 = .ok (.getfield 24, 3) := by decide +kernel
theorem dX8_put_54 : decode cX8_put 54 = .ok (.aload_n 0, 1) := by decide +kernel
theorem dX8_put_55 : decode cX8_put 55 = .ok (.getfield 37, 3) := by decide +kernel
theorem dX8_put_58 : decode cX8_put 58 = .ok (.iload_n 3, 1) := by decide +kernel
theorem dX8_put_59 : decode cX8_put 59 = .ok (.iastore, 1) := by decide +kernel
theorem dX8_put_60 : decode cX8_put 60 = .ok (.aload_n 0, 1) := by decide +kernel
theorem dX8_put_61 : decode cX8_put 61 = .ok (.dup, 1) := by decide +kernel
theorem dX8_put_62 : decode cX8_put 62 = .ok (.getfield 37, 3) := by decide +kernel
theorem dX8_put_65 : decode cX8_put 65 = .ok (.iconst 1, 1) := by decide +kernel
theorem dX8_put_66 : decode cX8_put 66 = .ok (.iadd, 1) := by decide +kernel
theorem dX8_put_67 : decode cX8_put 67 = .ok (.putfield 37, 3) := by decide +kernel
theorem dX8_put_70 : decode cX8_put 70 = .ok (.aload_n 0, 1) := by decide +kernel
theorem dX8_put_71 : decode cX8_put 71 = .ok (.getfield 37, 3) := by decide +kernel
theorem dX8_put_74 : decode cX8_put 74 = .ok (.ireturn, 1) := by decide +kernel
theorem dX8_sheetOfPut_0 : decode cX8_sheetOfPut 0 = .ok (.iload_n 1, 1) := by decide +kernel
theorem dX8_sheetOfPut_1 : decode cX8_sheetOfPut 1 = .ok (.ifCond .lt 27, 3) := by decide +kernel
theorem dX8_sheetOfPut_4 : decode cX8_sheetOfPut 4 = .ok (.iload_n 1, 1) := by decide +kernel
theorem dX8_sheetOfPut_5 : decode cX8_sheetOfPut 5 = .ok (.aload_n 0, 1) := by decide +kernel
theorem dX8_sheetOfPut_6 : decode cX8_sheetOfPut 6 = .ok (.getfield 37, 3) := by decide +kernel
theorem dX8_sheetOfPut_9 : decode cX8_sheetOfPut 9 = .ok (.if_icmp .ge 19, 3) := by decide +kernel
theorem dX8_sheetOfPut_12 : decode cX8_sheetOfPut 12 = .ok (.iload_n 1, 1) := by decide +kernel
theorem dX8_sheetOfPut_13 : decode cX8_sheetOfPut 13 = .ok (.bipush 20, 2) := by decide +kernel
theorem dX8_sheetOfPut_15 : decode cX8_sheetOfPut 15 = .ok (.if_icmp .ge 13, 3) := by decide +kernel
theorem dX8_sheetOfPut_18 : decode cX8_sheetOfPut 18 = .ok (.aload_n 0, 1) := by decide +kernel
theorem dX8_sheetOfPut_19 : decode cX8_sheetOfPut 19 = .ok (.getfield 24, 3) := by decide +kernel
theorem dX8_sheetOfPut_22 : decode cX8_sheetOfPut 22 = .ok (.iload_n 1, 1) := by decide +kernel
theorem dX8_sheetOfPut_23 : decode cX8_sheetOfPut 23 = .ok (.iaload, 1) := by decide +kernel
theorem dX8_sheetOfPut_24 : decode cX8_sheetOfPut 24 = .ok (.iload_n 3, 1) := by decide +kernel
theorem dX8_sheetOfPut_25 : decode cX8_sheetOfPut 25 = .ok (.if_icmp .le 5, 3) := by decide +kernel
theorem dX8_sheetOfPut_28 : decode cX8_sheetOfPut 28 = .ok (.aconst_null, 1) := by decide +kernel
theorem dX8_sheetOfPut_29 : decode cX8_sheetOfPut 29 = .ok (.areturn, 1) := by decide +kernel
theorem dX8_sheetOfPut_30 : decode cX8_sheetOfPut 30 = .ok (.aload_n 0, 1) := by decide +kernel
theorem dX8_sheetOfPut_31 : decode cX8_sheetOfPut 31 = .ok (.getfield 21, 3) := by decide +kernel
theorem dX8_sheetOfPut_34 : decode cX8_sheetOfPut 34 = .ok (.iload_n 1, 1) := by decide +kernel
theorem dX8_sheetOfPut_35 : decode cX8_sheetOfPut 35 = .ok (.iaload, 1) := by decide +kernel
theorem dX8_sheetOfPut_36 : decode cX8_sheetOfPut 36 = .ok (.iconst (-1), 1) := by decide +kernel
theorem dX8_sheetOfPut_37 : decode cX8_sheetOfPut 37 = .ok (.if_icmp .eq 13, 3) := by decide +kernel
theorem dX8_sheetOfPut_40 : decode cX8_sheetOfPut 40 = .ok (.aload_n 0, 1) := by decide +kernel
theorem dX8_sheetOfPut_41 : decode cX8_sheetOfPut 41 = .ok (.getfield 21, 3) := by decide +kernel
theorem dX8_sheetOfPut_44 : decode cX8_sheetOfPut 44 = .ok (.iload_n 1, 1) := by decide +kernel
theorem dX8_sheetOfPut_45 : decode cX8_sheetOfPut 45 = .ok (.iaload, 1) := by decide +kernel
theorem dX8_sheetOfPut_46 : decode cX8_sheetOfPut 46 = .ok (.iload_n 2, 1) := by decide +kernel
theorem dX8_sheetOfPut_47 : decode cX8_sheetOfPut 47 = .ok (.if_icmp .ne 7, 3) := by decide +kernel
theorem dX8_sheetOfPut_50 : decode cX8_sheetOfPut 50 = .ok (.iconst 1, 1) := by decide +kernel
theorem dX8_sheetOfPut_51 : decode cX8_sheetOfPut 51 = .ok (.goto 4, 3) := by decide +kernel
theorem dX8_sheetOfPut_54 : decode cX8_sheetOfPut 54 = .ok (.iconst 0, 1) := by decide +kernel
theorem dX8_sheetOfPut_55 : decode cX8_sheetOfPut 55 = .ok (.istore 4, 2) := by decide +kernel
theorem dX8_sheetOfPut_57 : decode cX8_sheetOfPut 57 = .ok (.aload_n 0, 1) := by decide +kernel
theorem dX8_sheetOfPut_58 : decode cX8_sheetOfPut 58 = .ok (.getfield 17, 3) := by decide +kernel
theorem dX8_sheetOfPut_61 : decode cX8_sheetOfPut 61 = .ok (.iload_n 1, 1) := by decide +kernel
theorem dX8_sheetOfPut_62 : decode cX8_sheetOfPut 62 = .ok (.iaload, 1) := by decide +kernel
theorem dX8_sheetOfPut_63 : decode cX8_sheetOfPut 63 = .ok (.istore 5, 2) := by decide +kernel
theorem dX8_sheetOfPut_65 : decode cX8_sheetOfPut 65 = .ok (.iload 4, 2) := by decide +kernel
theorem dX8_sheetOfPut_67 : decode cX8_sheetOfPut 67 = .ok (.ifCond .eq 25, 3) := by decide +kernel
theorem dX8_sheetOfPut_70 : decode cX8_sheetOfPut 70 = .ok (.iload 5, 2) := by decide +kernel
theorem dX8_sheetOfPut_72 : decode cX8_sheetOfPut 72 = .ok (.ifCond .lt 20, 3) := by decide +kernel
theorem dX8_sheetOfPut_75 : decode cX8_sheetOfPut 75 = .ok (.iload 5, 2) := by decide +kernel
theorem dX8_sheetOfPut_77 : decode cX8_sheetOfPut 77 = .ok (.bipush 12, 2) := by decide +kernel
theorem dX8_sheetOfPut_79 : decode cX8_sheetOfPut 79 = .ok (.if_icmp .ge 13, 3) := by decide +kernel
theorem dX8_sheetOfPut_82 : decode cX8_sheetOfPut 82 = .ok (.aload_n 0, 1) := by decide +kernel
theorem dX8_sheetOfPut_83 : decode cX8_sheetOfPut 83 = .ok (.getfield 13, 3) := by decide +kernel
theorem dX8_sheetOfPut_86 : decode cX8_sheetOfPut 86 = .ok (.iload 5, 2) := by decide +kernel
theorem dX8_sheetOfPut_88 : decode cX8_sheetOfPut 88 = .ok (.aaload, 1) := by decide +kernel
theorem dX8_sheetOfPut_89 : decode cX8_sheetOfPut 89 = .ok (.goto 4, 3) := by decide +kernel
theorem dX8_sheetOfPut_92 : decode cX8_sheetOfPut 92 = .ok (.aconst_null, 1) := by decide +kernel
theorem dX8_sheetOfPut_93 : decode cX8_sheetOfPut 93 = .ok (.areturn, 1) := by decide +kernel
theorem dX8_inForce_0 : decode cX8_inForce 0 = .ok (.aload_n 0, 1) := by decide +kernel
theorem dX8_inForce_1 : decode cX8_inForce 1 = .ok (.getfield 37, 3) := by decide +kernel
theorem dX8_inForce_4 : decode cX8_inForce 4 = .ok (.iconst 1, 1) := by decide +kernel
theorem dX8_inForce_5 : decode cX8_inForce 5 = .ok (.isub, 1) := by decide +kernel
theorem dX8_inForce_6 : decode cX8_inForce 6 = .ok (.istore 4, 2) := by decide +kernel
theorem dX8_inForce_8 : decode cX8_inForce 8 = .ok (.iload 4, 2) := by decide +kernel
theorem dX8_inForce_10 : decode cX8_inForce 10 = .ok (.ifCond .lt 41, 3) := by decide +kernel
theorem dX8_inForce_13 : decode cX8_inForce 13 = .ok (.aload_n 0, 1) := by decide +kernel
theorem dX8_inForce_14 : decode cX8_inForce 14 = .ok (.iload 4, 2) := by decide +kernel
theorem dX8_inForce_16 : decode cX8_inForce 16 = .ok (.iload_n 2, 1) := by decide +kernel
theorem dX8_inForce_17 : decode cX8_inForce 17 = .ok (.iload_n 3, 1) := by decide +kernel
theorem dX8_inForce_18 : decode cX8_inForce 18 = .ok (.invokevirtual 40, 3) := by decide +kernel
theorem dX8_inForce_21 : decode cX8_inForce 21 = .ok (.astore 5, 2) := by decide +kernel
theorem dX8_inForce_23 : decode cX8_inForce 23 = .ok (.aload 5, 2) := by decide +kernel
theorem dX8_inForce_25 : decode cX8_inForce 25 = .ok (.ifnull 20, 3) := by decide +kernel
theorem dX8_inForce_28 : decode cX8_inForce 28 = .ok (.aload 5, 2) := by decide +kernel
theorem dX8_inForce_30 : decode cX8_inForce 30 = .ok (.iload_n 1, 1) := by decide +kernel
theorem dX8_inForce_31 : decode cX8_inForce 31 = .ok (.invokevirtual 44, 3) := by decide +kernel
theorem dX8_inForce_34 : decode cX8_inForce 34 = .ok (.ifCond .eq 11, 3) := by decide +kernel
theorem dX8_inForce_37 : decode cX8_inForce 37 = .ok (.aload_n 0, 1) := by decide +kernel
theorem dX8_inForce_38 : decode cX8_inForce 38 = .ok (.getfield 17, 3) := by decide +kernel
theorem dX8_inForce_41 : decode cX8_inForce 41 = .ok (.iload 4, 2) := by decide +kernel
theorem dX8_inForce_43 : decode cX8_inForce 43 = .ok (.iaload, 1) := by decide +kernel
theorem dX8_inForce_44 : decode cX8_inForce 44 = .ok (.ireturn, 1) := by decide +kernel
theorem dX8_inForce_45 : decode cX8_inForce 45 = .ok (.iinc 4 (-1), 3) := by decide +kernel
theorem dX8_inForce_48 : decode cX8_inForce 48 = .ok (.goto (-40), 3) := by decide +kernel
theorem dX8_inForce_51 : decode cX8_inForce 51 = .ok (.iconst (-1), 1) := by decide +kernel
theorem dX8_inForce_52 : decode cX8_inForce 52 = .ok (.ireturn, 1) := by decide +kernel
theorem dX8_skips_0 : decode cX8_skips 0 = .ok (.iconst 0, 1) := by decide +kernel
theorem dX8_skips_1 : decode cX8_skips 1 = .ok (.istore 5, 2) := by decide +kernel
theorem dX8_skips_3 : decode cX8_skips 3 = .ok (.iload 5, 2) := by decide +kernel
theorem dX8_skips_5 : decode cX8_skips 5 = .ok (.aload_n 0, 1) := by decide +kernel
theorem dX8_skips_6 : decode cX8_skips 6 = .ok (.getfield 37, 3) := by decide +kernel
theorem dX8_skips_9 : decode cX8_skips 9 = .ok (.if_icmp .ge 36, 3) := by decide +kernel
theorem dX8_skips_12 : decode cX8_skips 12 = .ok (.aload_n 0, 1) := by decide +kernel
theorem dX8_skips_13 : decode cX8_skips 13 = .ok (.iload 5, 2) := by decide +kernel
theorem dX8_skips_15 : decode cX8_skips 15 = .ok (.iload_n 3, 1) := by decide +kernel
theorem dX8_skips_16 : decode cX8_skips 16 = .ok (.iload 4, 2) := by decide +kernel
theorem dX8_skips_18 : decode cX8_skips 18 = .ok (.invokevirtual 40, 3) := by decide +kernel
theorem dX8_skips_21 : decode cX8_skips 21 = .ok (.astore 6, 2) := by decide +kernel
theorem dX8_skips_23 : decode cX8_skips 23 = .ok (.aload 6, 2) := by decide +kernel
theorem dX8_skips_25 : decode cX8_skips 25 = .ok (.ifnull 14, 3) := by decide +kernel
theorem dX8_skips_28 : decode cX8_skips 28 = .ok (.aload 6, 2) := by decide +kernel
theorem dX8_skips_30 : decode cX8_skips 30 = .ok (.lload_n 1, 1) := by decide +kernel
theorem dX8_skips_31 : decode cX8_skips 31 = .ok (.invokevirtual 48, 3) := by decide +kernel
theorem dX8_skips_34 : decode cX8_skips 34 = .ok (.ifCond .eq 5, 3) := by decide +kernel
theorem dX8_skips_37 : decode cX8_skips 37 = .ok (.iconst 1, 1) := by decide +kernel
theorem dX8_skips_38 : decode cX8_skips 38 = .ok (.ireturn, 1) := by decide +kernel
theorem dX8_skips_39 : decode cX8_skips 39 = .ok (.iinc 5 1, 3) := by decide +kernel
theorem dX8_skips_42 : decode cX8_skips 42 = .ok (.goto (-39), 3) := by decide +kernel
theorem dX8_skips_45 : decode cX8_skips 45 = .ok (.iconst 0, 1) := by decide +kernel
theorem dX8_skips_46 : decode cX8_skips 46 = .ok (.ireturn, 1) := by decide +kernel
theorem dX8_forgetNames_0 : decode cX8_forgetNames 0 = .ok (.aload_n 0, 1) := by decide +kernel
theorem dX8_forgetNames_1 : decode cX8_forgetNames 1 = .ok (.getfield 27, 3) := by decide +kernel
theorem dX8_forgetNames_4 : decode cX8_forgetNames 4 = .ok (.iconst 0, 1) := by decide +kernel
theorem dX8_forgetNames_5 : decode cX8_forgetNames 5 = .ok (.invokestatic 52, 3) := by decide +kernel
theorem dX8_forgetNames_8 : decode cX8_forgetNames 8 = .ok (.return_, 1) := by decide +kernel
theorem dX8_name_0 : decode cX8_name 0 = .ok (.iload_n 1, 1) := by decide +kernel
theorem dX8_name_1 : decode cX8_name 1 = .ok (.ifCond .lt 16, 3) := by decide +kernel
theorem dX8_name_4 : decode cX8_name 4 = .ok (.iload_n 1, 1) := by decide +kernel
theorem dX8_name_5 : decode cX8_name 5 = .ok (.bipush 9, 2) := by decide +kernel
theorem dX8_name_7 : decode cX8_name 7 = .ok (.if_icmp .ge 10, 3) := by decide +kernel
theorem dX8_name_10 : decode cX8_name 10 = .ok (.aload_n 0, 1) := by decide +kernel
theorem dX8_name_11 : decode cX8_name 11 = .ok (.getfield 27, 3) := by decide +kernel
theorem dX8_name_14 : decode cX8_name 14 = .ok (.iload_n 1, 1) := by decide +kernel
theorem dX8_name_15 : decode cX8_name 15 = .ok (.iload_n 2, 1) := by decide +kernel
theorem dX8_name_16 : decode cX8_name 16 = .ok (.iastore, 1) := by decide +kernel
theorem dX8_name_17 : decode cX8_name 17 = .ok (.return_, 1) := by decide +kernel
theorem dX8_valueOf_0 : decode cX8_valueOf 0 = .ok (.iload_n 1, 1) := by decide +kernel
theorem dX8_valueOf_1 : decode cX8_valueOf 1 = .ok (.ifCond .lt 11, 3) := by decide +kernel
theorem dX8_valueOf_4 : decode cX8_valueOf 4 = .ok (.iload_n 1, 1) := by decide +kernel
theorem dX8_valueOf_5 : decode cX8_valueOf 5 = .ok (.getstatic 58, 3) := by decide +kernel
theorem dX8_valueOf_8 : decode cX8_valueOf 8 = .ok (.arraylength, 1) := by decide +kernel
theorem dX8_valueOf_9 : decode cX8_valueOf 9 = .ok (.if_icmp .lt 5, 3) := by decide +kernel
theorem dX8_valueOf_12 : decode cX8_valueOf 12 = .ok (.iconst 0, 1) := by decide +kernel
theorem dX8_valueOf_13 : decode cX8_valueOf 13 = .ok (.ireturn, 1) := by decide +kernel
theorem dX8_valueOf_14 : decode cX8_valueOf 14 = .ok (.aload_n 0, 1) := by decide +kernel
theorem dX8_valueOf_15 : decode cX8_valueOf 15 = .ok (.iload_n 1, 1) := by decide +kernel
theorem dX8_valueOf_16 : decode cX8_valueOf 16 = .ok (.iload_n 2, 1) := by decide +kernel
theorem dX8_valueOf_17 : decode cX8_valueOf 17 = .ok (.iload_n 3, 1) := by decide +kernel
theorem dX8_valueOf_18 : decode cX8_valueOf 18 = .ok (.invokevirtual 61, 3) := by decide +kernel
theorem dX8_valueOf_21 : decode cX8_valueOf 21 = .ok (.istore 4, 2) := by decide +kernel
theorem dX8_valueOf_23 : decode cX8_valueOf 23 = .ok (.iload 4, 2) := by decide +kernel
theorem dX8_valueOf_25 : decode cX8_valueOf 25 = .ok (.ifCond .lt 20, 3) := by decide +kernel
theorem dX8_valueOf_28 : decode cX8_valueOf 28 = .ok (.iload 4, 2) := by decide +kernel
theorem dX8_valueOf_30 : decode cX8_valueOf 30 = .ok (.bipush 12, 2) := by decide +kernel
theorem dX8_valueOf_32 : decode cX8_valueOf 32 = .ok (.if_icmp .ge 13, 3) := by decide +kernel
theorem dX8_valueOf_35 : decode cX8_valueOf 35 = .ok (.aload_n 0, 1) := by decide +kernel
theorem dX8_valueOf_36 : decode cX8_valueOf 36 = .ok (.getfield 13, 3) := by decide +kernel
theorem dX8_valueOf_39 : decode cX8_valueOf 39 = .ok (.iload 4, 2) := by decide +kernel
theorem dX8_valueOf_41 : decode cX8_valueOf 41 = .ok (.aaload, 1) := by decide +kernel
theorem dX8_valueOf_42 : decode cX8_valueOf 42 = .ok (.goto 4, 3) := by decide +kernel
theorem dX8_valueOf_45 : decode cX8_valueOf 45 = .ok (.aconst_null, 1) := by decide +kernel
theorem dX8_valueOf_46 : decode cX8_valueOf 46 = .ok (.astore 5, 2) := by decide +kernel
theorem dX8_valueOf_48 : decode cX8_valueOf 48 = .ok (.aload 5, 2) := by decide +kernel
theorem dX8_valueOf_50 : decode cX8_valueOf 50 = .ok (.ifnonnull 11, 3) := by decide +kernel
theorem dX8_valueOf_53 : decode cX8_valueOf 53 = .ok (.getstatic 58, 3) := by decide +kernel
theorem dX8_valueOf_56 : decode cX8_valueOf 56 = .ok (.iload_n 1, 1) := by decide +kernel
theorem dX8_valueOf_57 : decode cX8_valueOf 57 = .ok (.iaload, 1) := by decide +kernel
theorem dX8_valueOf_58 : decode cX8_valueOf 58 = .ok (.goto 10, 3) := by decide +kernel
theorem dX8_valueOf_61 : decode cX8_valueOf 61 = .ok (.aload_n 0, 1) := by decide +kernel
theorem dX8_valueOf_62 : decode cX8_valueOf 62 = .ok (.aload 5, 2) := by decide +kernel
theorem dX8_valueOf_64 : decode cX8_valueOf 64 = .ok (.iload_n 1, 1) := by decide +kernel
theorem dX8_valueOf_65 : decode cX8_valueOf 65 = .ok (.invokevirtual 65, 3) := by decide +kernel
theorem dX8_valueOf_68 : decode cX8_valueOf 68 = .ok (.ireturn, 1) := by decide +kernel
theorem dX8_run_0 : decode cX8_run 0 = .ok (.aload_n 1, 1) := by decide +kernel
theorem dX8_run_1 : decode cX8_run 1 = .ok (.iload_n 2, 1) := by decide +kernel
theorem dX8_run_2 : decode cX8_run 2 = .ok (.invokevirtual 44, 3) := by decide +kernel
theorem dX8_run_5 : decode cX8_run 5 = .ok (.ifCond .eq 12, 3) := by decide +kernel
theorem dX8_run_8 : decode cX8_run 8 = .ok (.iload_n 2, 1) := by decide +kernel
theorem dX8_run_9 : decode cX8_run 9 = .ok (.aload_n 1, 1) := by decide +kernel
theorem dX8_run_10 : decode cX8_run 10 = .ok (.getfield 69, 3) := by decide +kernel
theorem dX8_run_13 : decode cX8_run 13 = .ok (.arraylength, 1) := by decide +kernel
theorem dX8_run_14 : decode cX8_run 14 = .ok (.if_icmp .lt 5, 3) := by decide +kernel
theorem dX8_run_17 : decode cX8_run 17 = .ok (.iconst 0, 1) := by decide +kernel
theorem dX8_run_18 : decode cX8_run 18 = .ok (.ireturn, 1) := by decide +kernel
theorem dX8_run_19 : decode cX8_run 19 = .ok (.iconst 0, 1) := by decide +kernel
theorem dX8_run_20 : decode cX8_run 20 = .ok (.istore_n 3, 1) := by decide +kernel
theorem dX8_run_21 : decode cX8_run 21 = .ok (.aload_n 1, 1) := by decide +kernel
theorem dX8_run_22 : decode cX8_run 22 = .ok (.getfield 72, 3) := by decide +kernel
theorem dX8_run_25 : decode cX8_run 25 = .ok (.iload_n 2, 1) := by decide +kernel
theorem dX8_run_26 : decode cX8_run 26 = .ok (.iaload, 1) := by decide +kernel
theorem dX8_run_27 : decode cX8_run 27 = .ok (.istore 4, 2) := by decide +kernel
theorem dX8_run_29 : decode cX8_run 29 = .ok (.iload 4, 2) := by decide +kernel
theorem dX8_run_31 : decode cX8_run 31 = .ok (.ifCond .lt 180, 3) := by decide +kernel
theorem dX8_run_34 : decode cX8_run 34 = .ok (.iload 4, 2) := by decide +kernel
theorem dX8_run_36 : decode cX8_run 36 = .ok (.aload_n 1, 1) := by decide +kernel
theorem dX8_run_37 : decode cX8_run 37 = .ok (.getfield 69, 3) := by decide +kernel
theorem dX8_run_40 : decode cX8_run 40 = .ok (.iload_n 2, 1) := by decide +kernel
theorem dX8_run_41 : decode cX8_run 41 = .ok (.iaload, 1) := by decide +kernel
theorem dX8_run_42 : decode cX8_run 42 = .ok (.if_icmp .ge 169, 3) := by decide +kernel
theorem dX8_run_45 : decode cX8_run 45 = .ok (.iload 4, 2) := by decide +kernel
theorem dX8_run_47 : decode cX8_run 47 = .ok (.aload_n 1, 1) := by decide +kernel
theorem dX8_run_48 : decode cX8_run 48 = .ok (.getfield 75, 3) := by decide +kernel
theorem dX8_run_51 : decode cX8_run 51 = .ok (.arraylength, 1) := by decide +kernel
theorem dX8_run_52 : decode cX8_run 52 = .ok (.if_icmp .ge 159, 3) := by decide +kernel
theorem dX8_run_55 : decode cX8_run 55 = .ok (.aload_n 1, 1) := by decide +kernel
theorem dX8_run_56 : decode cX8_run 56 = .ok (.getfield 75, 3) := by decide +kernel
theorem dX8_run_59 : decode cX8_run 59 = .ok (.iload 4, 2) := by decide +kernel
theorem dX8_run_61 : decode cX8_run 61 = .ok (.iaload, 1) := by decide +kernel
theorem dX8_run_62 : decode cX8_run 62 = .ok (.istore 5, 2) := by decide +kernel
theorem dX8_run_64 : decode cX8_run 64 = .ok (.iconst (-1), 1) := by decide +kernel
theorem dX8_run_65 : decode cX8_run 65 = .ok (.iload 5, 2) := by decide +kernel
theorem dX8_run_67 : decode cX8_run 67 = .ok (.isub, 1) := by decide +kernel
theorem dX8_run_68 : decode cX8_run 68 = .ok (.istore 6, 2) := by decide +kernel
theorem dX8_run_70 : decode cX8_run 70 = .ok (.iload 5, 2) := by decide +kernel
theorem dX8_run_72 : decode cX8_run 72 = .ok (.ifCond .lt 23, 3) := by decide +kernel
theorem dX8_run_75 : decode cX8_run 75 = .ok (.iload_n 3, 1) := by decide +kernel
theorem dX8_run_76 : decode cX8_run 76 = .ok (.bipush 64, 2) := by decide +kernel
theorem dX8_run_78 : decode cX8_run 78 = .ok (.if_icmp .ge 17, 3) := by decide +kernel
theorem dX8_run_81 : decode cX8_run 81 = .ok (.aload_n 0, 1) := by decide +kernel
theorem dX8_run_82 : decode cX8_run 82 = .ok (.getfield 30, 3) := by decide +kernel
theorem dX8_run_85 : decode cX8_run 85 = .ok (.iload_n 3, 1) := by decide +kernel
theorem dX8_run_86 : decode cX8_run 86 = .ok (.iload 5, 2) := by decide +kernel
theorem dX8_run_88 : decode cX8_run 88 = .ok (.iastore, 1) := by decide +kernel
theorem dX8_run_89 : decode cX8_run 89 = .ok (.iinc 3 1, 3) := by decide +kernel
theorem dX8_run_92 : decode cX8_run 92 = .ok (.goto 113, 3) := by decide +kernel
theorem dX8_run_95 : decode cX8_run 95 = .ok (.iload 6, 2) := by decide +kernel
theorem dX8_run_97 : decode cX8_run 97 = .ok (.ifCond .lt 35, 3) := by decide +kernel
theorem dX8_run_100 : decode cX8_run 100 = .ok (.iload 6, 2) := by decide +kernel
theorem dX8_run_102 : decode cX8_run 102 = .ok (.bipush 9, 2) := by decide +kernel
theorem dX8_run_104 : decode cX8_run 104 = .ok (.if_icmp .ge 28, 3) := by decide +kernel
theorem dX8_run_107 : decode cX8_run 107 = .ok (.iload_n 3, 1) := by decide +kernel
theorem dX8_run_108 : decode cX8_run 108 = .ok (.bipush 64, 2) := by decide +kernel
theorem dX8_run_110 : decode cX8_run 110 = .ok (.if_icmp .ge 22, 3) := by decide +kernel
theorem dX8_run_113 : decode cX8_run 113 = .ok (.aload_n 0, 1) := by decide +kernel
theorem dX8_run_114 : decode cX8_run 114 = .ok (.getfield 30, 3) := by decide +kernel
theorem dX8_run_117 : decode cX8_run 117 = .ok (.iload_n 3, 1) := by decide +kernel
theorem dX8_run_118 : decode cX8_run 118 = .ok (.aload_n 0, 1) := by decide +kernel
theorem dX8_run_119 : decode cX8_run 119 = .ok (.getfield 27, 3) := by decide +kernel
theorem dX8_run_122 : decode cX8_run 122 = .ok (.iload 6, 2) := by decide +kernel
theorem dX8_run_124 : decode cX8_run 124 = .ok (.iaload, 1) := by decide +kernel
theorem dX8_run_125 : decode cX8_run 125 = .ok (.iastore, 1) := by decide +kernel
theorem dX8_run_126 : decode cX8_run 126 = .ok (.iinc 3 1, 3) := by decide +kernel
theorem dX8_run_129 : decode cX8_run 129 = .ok (.goto 76, 3) := by decide +kernel
theorem dX8_run_132 : decode cX8_run 132 = .ok (.iload 5, 2) := by decide +kernel
theorem dX8_run_134 : decode cX8_run 134 = .ok (.bipush (-20), 2) := by decide +kernel
theorem dX8_run_136 : decode cX8_run 136 = .ok (.if_icmp .ne 34, 3) := by decide +kernel
theorem dX8_run_139 : decode cX8_run 139 = .ok (.iload_n 3, 1) := by decide +kernel
theorem dX8_run_140 : decode cX8_run 140 = .ok (.ifCond .le 30, 3) := by decide +kernel
theorem dX8_run_143 : decode cX8_run 143 = .ok (.aload_n 0, 1) := by decide +kernel
theorem dX8_run_144 : decode cX8_run 144 = .ok (.getfield 30, 3) := by decide +kernel
theorem dX8_run_147 : decode cX8_run 147 = .ok (.iload_n 3, 1) := by decide +kernel
theorem dX8_run_148 : decode cX8_run 148 = .ok (.iconst 1, 1) := by decide +kernel
theorem dX8_run_149 : decode cX8_run 149 = .ok (.isub, 1) := by decide +kernel
theorem dX8_run_150 : decode cX8_run 150 = .ok (.aload_n 0, 1) := by decide +kernel
theorem dX8_run_151 : decode cX8_run 151 = .ok (.getfield 30, 3) := by decide +kernel
theorem dX8_run_154 : decode cX8_run 154 = .ok (.iload_n 3, 1) := by decide +kernel
theorem dX8_run_155 : decode cX8_run 155 = .ok (.iconst 1, 1) := by decide +kernel
theorem dX8_run_156 : decode cX8_run 156 = .ok (.isub, 1) := by decide +kernel
theorem dX8_run_157 : decode cX8_run 157 = .ok (.iaload, 1) := by decide +kernel
theorem dX8_run_158 : decode cX8_run 158 = .ok (.ifCond .ne 7, 3) := by decide +kernel
theorem dX8_run_161 : decode cX8_run 161 = .ok (.iconst 1, 1) := by decide +kernel
theorem dX8_run_162 : decode cX8_run 162 = .ok (.goto 4, 3) := by decide +kernel
theorem dX8_run_165 : decode cX8_run 165 = .ok (.iconst 0, 1) := by decide +kernel
theorem dX8_run_166 : decode cX8_run 166 = .ok (.iastore, 1) := by decide +kernel
theorem dX8_run_167 : decode cX8_run 167 = .ok (.goto 38, 3) := by decide +kernel
theorem dX8_run_170 : decode cX8_run 170 = .ok (.iload_n 3, 1) := by decide +kernel
theorem dX8_run_171 : decode cX8_run 171 = .ok (.iconst 1, 1) := by decide +kernel
theorem dX8_run_172 : decode cX8_run 172 = .ok (.if_icmp .le 33, 3) := by decide +kernel
theorem dX8_run_175 : decode cX8_run 175 = .ok (.iinc 3 (-1), 3) := by decide +kernel
theorem dX8_run_178 : decode cX8_run 178 = .ok (.aload_n 0, 1) := by decide +kernel
theorem dX8_run_179 : decode cX8_run 179 = .ok (.getfield 30, 3) := by decide +kernel
theorem dX8_run_182 : decode cX8_run 182 = .ok (.iload_n 3, 1) := by decide +kernel
theorem dX8_run_183 : decode cX8_run 183 = .ok (.iconst 1, 1) := by decide +kernel
theorem dX8_run_184 : decode cX8_run 184 = .ok (.isub, 1) := by decide +kernel
theorem dX8_run_185 : decode cX8_run 185 = .ok (.iload 5, 2) := by decide +kernel
theorem dX8_run_187 : decode cX8_run 187 = .ok (.aload_n 0, 1) := by decide +kernel
theorem dX8_run_188 : decode cX8_run 188 = .ok (.getfield 30, 3) := by decide +kernel
theorem dX8_run_191 : decode cX8_run 191 = .ok (.iload_n 3, 1) := by decide +kernel
theorem dX8_run_192 : decode cX8_run 192 = .ok (.iconst 1, 1) := by decide +kernel
theorem dX8_run_193 : decode cX8_run 193 = .ok (.isub, 1) := by decide +kernel
theorem dX8_run_194 : decode cX8_run 194 = .ok (.iaload, 1) := by decide +kernel
theorem dX8_run_195 : decode cX8_run 195 = .ok (.aload_n 0, 1) := by decide +kernel
theorem dX8_run_196 : decode cX8_run 196 = .ok (.getfield 30, 3) := by decide +kernel
theorem dX8_run_199 : decode cX8_run 199 = .ok (.iload_n 3, 1) := by decide +kernel
theorem dX8_run_200 : decode cX8_run 200 = .ok (.iaload, 1) := by decide +kernel
theorem dX8_run_201 : decode cX8_run 201 = .ok (.invokestatic 78, 3) := by decide +kernel
theorem dX8_run_204 : decode cX8_run 204 = .ok (.iastore, 1) := by decide +kernel
theorem dX8_run_205 : decode cX8_run 205 = .ok (.iinc 4 1, 3) := by decide +kernel
theorem dX8_run_208 : decode cX8_run 208 = .ok (.goto (-179), 3) := by decide +kernel
theorem dX8_run_211 : decode cX8_run 211 = .ok (.aload_n 0, 1) := by decide +kernel
theorem dX8_run_212 : decode cX8_run 212 = .ok (.getfield 30, 3) := by decide +kernel
theorem dX8_run_215 : decode cX8_run 215 = .ok (.iconst 0, 1) := by decide +kernel
theorem dX8_run_216 : decode cX8_run 216 = .ok (.iaload, 1) := by decide +kernel
theorem dX8_run_217 : decode cX8_run 217 = .ok (.ireturn, 1) := by decide +kernel
theorem dX8_combine_0 : decode cX8_combine 0 = .ok (.lconst 0, 1) := by decide +kernel
theorem dX8_combine_1 : decode cX8_combine 1 = .ok (.lstore_n 3, 1) := by decide +kernel
theorem dX8_combine_2 : decode cX8_combine 2 = .ok (.iload_n 0, 1) := by decide +kernel
theorem dX8_combine_3 : decode cX8_combine 3 = .ok (.tableswitch 149 (-19) (-11) #[135, 121, 110, 99, 88, 76, 67, 58, 49], 49) := by decide +kernel
theorem dX8_combine_52 : decode cX8_combine 52 = .ok (.iload_n 1, 1) := by decide +kernel
theorem dX8_combine_53 : decode cX8_combine 53 = .ok (.i2l, 1) := by decide +kernel
theorem dX8_combine_54 : decode cX8_combine 54 = .ok (.iload_n 2, 1) := by decide +kernel
theorem dX8_combine_55 : decode cX8_combine 55 = .ok (.i2l, 1) := by decide +kernel
theorem dX8_combine_56 : decode cX8_combine 56 = .ok (.ladd, 1) := by decide +kernel
theorem dX8_combine_57 : decode cX8_combine 57 = .ok (.lstore_n 3, 1) := by decide +kernel
theorem dX8_combine_58 : decode cX8_combine 58 = .ok (.goto 96, 3) := by decide +kernel
theorem dX8_combine_61 : decode cX8_combine 61 = .ok (.iload_n 1, 1) := by decide +kernel
theorem dX8_combine_62 : decode cX8_combine 62 = .ok (.i2l, 1) := by decide +kernel
theorem dX8_combine_63 : decode cX8_combine 63 = .ok (.iload_n 2, 1) := by decide +kernel
theorem dX8_combine_64 : decode cX8_combine 64 = .ok (.i2l, 1) := by decide +kernel
theorem dX8_combine_65 : decode cX8_combine 65 = .ok (.lsub, 1) := by decide +kernel
theorem dX8_combine_66 : decode cX8_combine 66 = .ok (.lstore_n 3, 1) := by decide +kernel
theorem dX8_combine_67 : decode cX8_combine 67 = .ok (.goto 87, 3) := by decide +kernel
theorem dX8_combine_70 : decode cX8_combine 70 = .ok (.iload_n 1, 1) := by decide +kernel
theorem dX8_combine_71 : decode cX8_combine 71 = .ok (.i2l, 1) := by decide +kernel
theorem dX8_combine_72 : decode cX8_combine 72 = .ok (.iload_n 2, 1) := by decide +kernel
theorem dX8_combine_73 : decode cX8_combine 73 = .ok (.i2l, 1) := by decide +kernel
theorem dX8_combine_74 : decode cX8_combine 74 = .ok (.lmul, 1) := by decide +kernel
theorem dX8_combine_75 : decode cX8_combine 75 = .ok (.lstore_n 3, 1) := by decide +kernel
theorem dX8_combine_76 : decode cX8_combine 76 = .ok (.goto 78, 3) := by decide +kernel
theorem dX8_combine_79 : decode cX8_combine 79 = .ok (.iload_n 2, 1) := by decide +kernel
theorem dX8_combine_80 : decode cX8_combine 80 = .ok (.ifCond .ne 7, 3) := by decide +kernel
theorem dX8_combine_83 : decode cX8_combine 83 = .ok (.iconst 0, 1) := by decide +kernel
theorem dX8_combine_84 : decode cX8_combine 84 = .ok (.goto 6, 3) := by decide +kernel
theorem dX8_combine_87 : decode cX8_combine 87 = .ok (.iload_n 1, 1) := by decide +kernel
theorem dX8_combine_88 : decode cX8_combine 88 = .ok (.iload_n 2, 1) := by decide +kernel
theorem dX8_combine_89 : decode cX8_combine 89 = .ok (.idiv, 1) := by decide +kernel
theorem dX8_combine_90 : decode cX8_combine 90 = .ok (.ireturn, 1) := by decide +kernel
theorem dX8_combine_91 : decode cX8_combine 91 = .ok (.iload_n 1, 1) := by decide +kernel
theorem dX8_combine_92 : decode cX8_combine 92 = .ok (.iload_n 2, 1) := by decide +kernel
theorem dX8_combine_93 : decode cX8_combine 93 = .ok (.if_icmp .ge 7, 3) := by decide +kernel
theorem dX8_combine_96 : decode cX8_combine 96 = .ok (.iconst 1, 1) := by decide +kernel
theorem dX8_combine_97 : decode cX8_combine 97 = .ok (.goto 4, 3) := by decide +kernel
theorem dX8_combine_100 : decode cX8_combine 100 = .ok (.iconst 0, 1) := by decide +kernel
theorem dX8_combine_101 : decode cX8_combine 101 = .ok (.ireturn, 1) := by decide +kernel
theorem dX8_combine_102 : decode cX8_combine 102 = .ok (.iload_n 1, 1) := by decide +kernel
theorem dX8_combine_103 : decode cX8_combine 103 = .ok (.iload_n 2, 1) := by decide +kernel
theorem dX8_combine_104 : decode cX8_combine 104 = .ok (.if_icmp .le 7, 3) := by decide +kernel
theorem dX8_combine_107 : decode cX8_combine 107 = .ok (.iconst 1, 1) := by decide +kernel
theorem dX8_combine_108 : decode cX8_combine 108 = .ok (.goto 4, 3) := by decide +kernel
theorem dX8_combine_111 : decode cX8_combine 111 = .ok (.iconst 0, 1) := by decide +kernel
theorem dX8_combine_112 : decode cX8_combine 112 = .ok (.ireturn, 1) := by decide +kernel
theorem dX8_combine_113 : decode cX8_combine 113 = .ok (.iload_n 1, 1) := by decide +kernel
theorem dX8_combine_114 : decode cX8_combine 114 = .ok (.iload_n 2, 1) := by decide +kernel
theorem dX8_combine_115 : decode cX8_combine 115 = .ok (.if_icmp .ne 7, 3) := by decide +kernel
theorem dX8_combine_118 : decode cX8_combine 118 = .ok (.iconst 1, 1) := by decide +kernel
theorem dX8_combine_119 : decode cX8_combine 119 = .ok (.goto 4, 3) := by decide +kernel
theorem dX8_combine_122 : decode cX8_combine 122 = .ok (.iconst 0, 1) := by decide +kernel
theorem dX8_combine_123 : decode cX8_combine 123 = .ok (.ireturn, 1) := by decide +kernel
theorem dX8_combine_124 : decode cX8_combine 124 = .ok (.iload_n 1, 1) := by decide +kernel
theorem dX8_combine_125 : decode cX8_combine 125 = .ok (.ifCond .eq 11, 3) := by decide +kernel
theorem dX8_combine_128 : decode cX8_combine 128 = .ok (.iload_n 2, 1) := by decide +kernel
theorem dX8_combine_129 : decode cX8_combine 129 = .ok (.ifCond .eq 7, 3) := by decide +kernel
theorem dX8_combine_132 : decode cX8_combine 132 = .ok (.iconst 1, 1) := by decide +kernel
theorem dX8_combine_133 : decode cX8_combine 133 = .ok (.goto 4, 3) := by decide +kernel
theorem dX8_combine_136 : decode cX8_combine 136 = .ok (.iconst 0, 1) := by decide +kernel
theorem dX8_combine_137 : decode cX8_combine 137 = .ok (.ireturn, 1) := by decide +kernel
theorem dX8_combine_138 : decode cX8_combine 138 = .ok (.iload_n 1, 1) := by decide +kernel
theorem dX8_combine_139 : decode cX8_combine 139 = .ok (.ifCond .ne 7, 3) := by decide +kernel
theorem dX8_combine_142 : decode cX8_combine 142 = .ok (.iload_n 2, 1) := by decide +kernel
theorem dX8_combine_143 : decode cX8_combine 143 = .ok (.ifCond .eq 7, 3) := by decide +kernel
theorem dX8_combine_146 : decode cX8_combine 146 = .ok (.iconst 1, 1) := by decide +kernel
theorem dX8_combine_147 : decode cX8_combine 147 = .ok (.goto 4, 3) := by decide +kernel
theorem dX8_combine_150 : decode cX8_combine 150 = .ok (.iconst 0, 1) := by decide +kernel
theorem dX8_combine_151 : decode cX8_combine 151 = .ok (.ireturn, 1) := by decide +kernel
theorem dX8_combine_152 : decode cX8_combine 152 = .ok (.iconst 0, 1) := by decide +kernel
theorem dX8_combine_153 : decode cX8_combine 153 = .ok (.ireturn, 1) := by decide +kernel
theorem dX8_combine_154 : decode cX8_combine 154 = .ok (.ldc2_w 81, 3) := by decide +kernel
theorem dX8_combine_157 : decode cX8_combine 157 = .ok (.ldc2_w 83, 3) := by decide +kernel
theorem dX8_combine_160 : decode cX8_combine 160 = .ok (.lload_n 3, 1) := by decide +kernel
theorem dX8_combine_161 : decode cX8_combine 161 = .ok (.invokestatic 85, 3) := by decide +kernel
theorem dX8_combine_164 : decode cX8_combine 164 = .ok (.invokestatic 91, 3) := by decide +kernel
theorem dX8_combine_167 : decode cX8_combine 167 = .ok (.l2i, 1) := by decide +kernel
theorem dX8_combine_168 : decode cX8_combine 168 = .ok (.ireturn, 1) := by decide +kernel
theorem dX9_init_0 : decode cX9_init 0 = .ok (.aload_n 0, 1) := by decide +kernel
theorem dX9_init_1 : decode cX9_init 1 = .ok (.invokespecial 3, 3) := by decide +kernel
theorem dX9_init_4 : decode cX9_init 4 = .ok (.return_, 1) := by decide +kernel
theorem dX9_sortOf_0 : decode cX9_sortOf 0 = .ok (.iload_n 0, 1) := by decide +kernel
theorem dX9_sortOf_1 : decode cX9_sortOf 1 = .ok (.ifCond .lt 10, 3) := by decide +kernel
theorem dX9_sortOf_4 : decode cX9_sortOf 4 = .ok (.iload_n 0, 1) := by decide +kernel
theorem dX9_sortOf_5 : decode cX9_sortOf 5 = .ok (.iconst 4, 1) := by decide +kernel
theorem dX9_sortOf_6 : decode cX9_sortOf 6 = .ok (.if_icmp .gt 5, 3) := by decide +kernel
theorem dX9_sortOf_9 : decode cX9_sortOf 9 = .ok (.iload_n 0, 1) := by decide +kernel
theorem dX9_sortOf_10 : decode cX9_sortOf 10 = .ok (.ireturn, 1) := by decide +kernel
theorem dX9_sortOf_11 : decode cX9_sortOf 11 = .ok (.iload_n 0, 1) := by decide +kernel
theorem dX9_sortOf_12 : decode cX9_sortOf 12 = .ok (.bipush 10, 2) := by decide +kernel
theorem dX9_sortOf_14 : decode cX9_sortOf 14 = .ok (.idiv, 1) := by decide +kernel
theorem dX9_sortOf_15 : decode cX9_sortOf 15 = .ok (.istore_n 1, 1) := by decide +kernel
theorem dX9_sortOf_16 : decode cX9_sortOf 16 = .ok (.iload_n 0, 1) := by decide +kernel
theorem dX9_sortOf_17 : decode cX9_sortOf 17 = .ok (.bipush 10, 2) := by decide +kernel
theorem dX9_sortOf_19 : decode cX9_sortOf 19 = .ok (.irem, 1) := by decide +kernel
theorem dX9_sortOf_20 : decode cX9_sortOf 20 = .ok (.istore_n 2, 1) := by decide +kernel
theorem dX9_sortOf_21 : decode cX9_sortOf 21 = .ok (.iload_n 0, 1) := by decide +kernel
theorem dX9_sortOf_22 : decode cX9_sortOf 22 = .ok (.bipush 10, 2) := by decide +kernel
theorem dX9_sortOf_24 : decode cX9_sortOf 24 = .ok (.if_icmp .lt 25, 3) := by decide +kernel
theorem dX9_sortOf_27 : decode cX9_sortOf 27 = .ok (.iload_n 1, 1) := by decide +kernel
theorem dX9_sortOf_28 : decode cX9_sortOf 28 = .ok (.iconst 3, 1) := by decide +kernel
theorem dX9_sortOf_29 : decode cX9_sortOf 29 = .ok (.if_icmp .gt 20, 3) := by decide +kernel
theorem dX9_sortOf_32 : decode cX9_sortOf 32 = .ok (.iload_n 2, 1) := by decide +kernel
theorem dX9_sortOf_33 : decode cX9_sortOf 33 = .ok (.iconst 2, 1) := by decide +kernel
theorem dX9_sortOf_34 : decode cX9_sortOf 34 = .ok (.if_icmp .gt 15, 3) := by decide +kernel
theorem dX9_sortOf_37 : decode cX9_sortOf 37 = .ok (.iconst 5, 1) := by decide +kernel
theorem dX9_sortOf_38 : decode cX9_sortOf 38 = .ok (.iconst 3, 1) := by decide +kernel
theorem dX9_sortOf_39 : decode cX9_sortOf 39 = .ok (.iload_n 1, 1) := by decide +kernel
theorem dX9_sortOf_40 : decode cX9_sortOf 40 = .ok (.iconst 1, 1) := by decide +kernel
theorem dX9_sortOf_41 : decode cX9_sortOf 41 = .ok (.isub, 1) := by decide +kernel
theorem dX9_sortOf_42 : decode cX9_sortOf 42 = .ok (.imul, 1) := by decide +kernel
theorem dX9_sortOf_43 : decode cX9_sortOf 43 = .ok (.iadd, 1) := by decide +kernel
theorem dX9_sortOf_44 : decode cX9_sortOf 44 = .ok (.iload_n 2, 1) := by decide +kernel
theorem dX9_sortOf_45 : decode cX9_sortOf 45 = .ok (.iadd, 1) := by decide +kernel
theorem dX9_sortOf_46 : decode cX9_sortOf 46 = .ok (.goto 4, 3) := by decide +kernel
theorem dX9_sortOf_49 : decode cX9_sortOf 49 = .ok (.iconst (-1), 1) := by decide +kernel
theorem dX9_sortOf_50 : decode cX9_sortOf 50 = .ok (.ireturn, 1) := by decide +kernel
theorem dX9_has_0 : decode cX9_has 0 = .ok (.iload_n 1, 1) := by decide +kernel
theorem dX9_has_1 : decode cX9_has 1 = .ok (.ifCond .lt 26, 3) := by decide +kernel
theorem dX9_has_4 : decode cX9_has 4 = .ok (.iload_n 1, 1) := by decide +kernel
theorem dX9_has_5 : decode cX9_has 5 = .ok (.aload_n 0, 1) := by decide +kernel
theorem dX9_has_6 : decode cX9_has 6 = .ok (.getfield 11, 3) := by decide +kernel
theorem dX9_has_9 : decode cX9_has 9 = .ok (.arraylength, 1) := by decide +kernel
theorem dX9_has_10 : decode cX9_has 10 = .ok (.if_icmp .ge 17, 3) := by decide +kernel
theorem dX9_has_13 : decode cX9_has 13 = .ok (.aload_n 0, 1) := by decide +kernel
theorem dX9_has_14 : decode cX9_has 14 = .ok (.getfield 11, 3) := by decide +kernel
theorem dX9_has_17 : decode cX9_has 17 = .ok (.iload_n 1, 1) := by decide +kernel
theorem dX9_has_18 : decode cX9_has 18 = .ok (.iaload, 1) := by decide +kernel
theorem dX9_has_19 : decode cX9_has 19 = .ok (.iconst (-1), 1) := by decide +kernel
theorem dX9_has_20 : decode cX9_has 20 = .ok (.if_icmp .eq 7, 3) := by decide +kernel
theorem dX9_has_23 : decode cX9_has 23 = .ok (.iconst 1, 1) := by decide +kernel
theorem dX9_has_24 : decode cX9_has 24 = .ok (.goto 4, 3) := by decide +kernel
theorem dX9_has_27 : decode cX9_has 27 = .ok (.iconst 0, 1) := by decide +kernel
theorem dX9_has_28 : decode cX9_has 28 = .ok (.ireturn, 1) := by decide +kernel
theorem dX9_hasWord_0 : decode cX9_hasWord 0 = .ok (.iconst 0, 1) := by decide +kernel
theorem dX9_hasWord_1 : decode cX9_hasWord 1 = .ok (.istore_n 3, 1) := by decide +kernel
theorem dX9_hasWord_2 : decode cX9_hasWord 2 = .ok (.iload_n 3, 1) := by decide +kernel
theorem dX9_hasWord_3 : decode cX9_hasWord 3 = .ok (.aload_n 0, 1) := by decide +kernel
theorem dX9_hasWord_4 : decode cX9_hasWord 4 = .ok (.getfield 15, 3) := by decide +kernel
theorem dX9_hasWord_7 : decode cX9_hasWord 7 = .ok (.arraylength, 1) := by decide +kernel
theorem dX9_hasWord_8 : decode cX9_hasWord 8 = .ok (.if_icmp .ge 22, 3) := by decide +kernel
theorem dX9_hasWord_11 : decode cX9_hasWord 11 = .ok (.aload_n 0, 1) := by decide +kernel
theorem dX9_hasWord_12 : decode cX9_hasWord 12 = .ok (.getfield 15, 3) := by decide +kernel
theorem dX9_hasWord_15 : decode cX9_hasWord 15 = .ok (.iload_n 3, 1) := by decide +kernel
theorem dX9_hasWord_16 : decode cX9_hasWord 16 = .ok (.laload, 1) := by decide +kernel
theorem dX9_hasWord_17 : decode cX9_hasWord 17 = .ok (.lload_n 1, 1) := by decide +kernel
theorem dX9_hasWord_18 : decode cX9_hasWord 18 = .ok (.lcmp, 1) := by decide +kernel
theorem dX9_hasWord_19 : decode cX9_hasWord 19 = .ok (.ifCond .ne 5, 3) := by decide +kernel
theorem dX9_hasWord_22 : decode cX9_hasWord 22 = .ok (.iconst 1, 1) := by decide +kernel
theorem dX9_hasWord_23 : decode cX9_hasWord 23 = .ok (.ireturn, 1) := by decide +kernel
theorem dX9_hasWord_24 : decode cX9_hasWord 24 = .ok (.iinc 3 1, 3) := by decide +kernel
theorem dX9_hasWord_27 : decode cX9_hasWord 27 = .ok (.goto (-25), 3) := by decide +kernel
theorem dX9_hasWord_30 : decode cX9_hasWord 30 = .ok (.iconst 0, 1) := by decide +kernel
theorem dX9_hasWord_31 : decode cX9_hasWord 31 = .ok (.ireturn, 1) := by decide +kernel
theorem dX10_init_0 : decode cX10_init 0 = .ok (.aload_n 0, 1) := by decide +kernel
theorem dX10_init_1 : decode cX10_init 1 = .ok (.invokespecial 3, 3) := by decide +kernel
theorem dX10_init_4 : decode cX10_init 4 = .ok (.aload_n 0, 1) := by decide +kernel
theorem dX10_init_5 : decode cX10_init 5 = .ok (.bipush 30, 2) := by decide +kernel
theorem dX10_init_7 : decode cX10_init 7 = .ok (.newarray .int, 2) := by decide +kernel
theorem dX10_init_9 : decode cX10_init 9 = .ok (.putfield 11, 3) := by decide +kernel
theorem dX10_init_12 : decode cX10_init 12 = .ok (.aload_n 0, 1) := by decide +kernel
theorem dX10_init_13 : decode cX10_init 13 = .ok (.bipush 31, 2) := by decide +kernel
theorem dX10_init_15 : decode cX10_init 15 = .ok (.newarray .int, 2) := by decide +kernel
theorem dX10_init_17 : decode cX10_init 17 = .ok (.putfield 15, 3) := by decide +kernel
theorem dX10_init_20 : decode cX10_init 20 = .ok (.return_, 1) := by decide +kernel
theorem dX10_add_0 : decode cX10_add 0 = .ok (.aload_n 0, 1) := by decide +kernel
theorem dX10_add_1 : decode cX10_add 1 = .ok (.getfield 18, 3) := by decide +kernel
theorem dX10_add_4 : decode cX10_add 4 = .ok (.ifCond .lt 12, 3) := by decide +kernel
theorem dX10_add_7 : decode cX10_add 7 = .ok (.aload_n 0, 1) := by decide +kernel
theorem dX10_add_8 : decode cX10_add 8 = .ok (.getfield 18, 3) := by decide +kernel
theorem dX10_add_11 : decode cX10_add 11 = .ok (.bipush 30, 2) := by decide +kernel
theorem dX10_add_13 : decode cX10_add 13 = .ok (.if_icmp .lt 5, 3) := by decide +kernel
theorem dX10_add_16 : decode cX10_add 16 = .ok (.iconst (-1), 1) := by decide +kernel
theorem dX10_add_17 : decode cX10_add 17 = .ok (.ireturn, 1) := by decide +kernel
theorem dX10_add_18 : decode cX10_add 18 = .ok (.aload_n 0, 1) := by decide +kernel
theorem dX10_add_19 : decode cX10_add 19 = .ok (.getfield 11, 3) := by decide +kernel
theorem dX10_add_22 : decode cX10_add 22 = .ok (.aload_n 0, 1) := by decide +kernel
theorem dX10_add_23 : decode cX10_add 23 = .ok (.getfield 18, 3) := by decide +kernel
theorem dX10_add_26 : decode cX10_add 26 = .ok (.iload_n 1, 1) := by decide +kernel
theorem dX10_add_27 : decode cX10_add 27 = .ok (.iastore, 1) := by decide +kernel
theorem dX10_add_28 : decode cX10_add 28 = .ok (.aload_n 0, 1) := by decide +kernel
theorem dX10_add_29 : decode cX10_add 29 = .ok (.dup, 1) := by decide +kernel
theorem dX10_add_30 : decode cX10_add 30 = .ok (.getfield 18, 3) := by decide +kernel
theorem dX10_add_33 : decode cX10_add 33 = .ok (.iconst 1, 1) := by decide +kernel
theorem dX10_add_34 : decode cX10_add 34 = .ok (.iadd, 1) := by decide +kernel
theorem dX10_add_35 : decode cX10_add 35 = .ok (.putfield 18, 3) := by decide +kernel
theorem dX10_add_38 : decode cX10_add 38 = .ok (.aload_n 0, 1) := by decide +kernel
theorem dX10_add_39 : decode cX10_add 39 = .ok (.getfield 18, 3) := by decide +kernel
theorem dX10_add_42 : decode cX10_add 42 = .ok (.ireturn, 1) := by decide +kernel
theorem dX10_begin_0 : decode cX10_begin 0 = .ok (.iconst 0, 1) := by decide +kernel
theorem dX10_begin_1 : decode cX10_begin 1 = .ok (.istore_n 1, 1) := by decide +kernel
theorem dX10_begin_2 : decode cX10_begin 2 = .ok (.iload_n 1, 1) := by decide +kernel
theorem dX10_begin_3 : decode cX10_begin 3 = .ok (.bipush 30, 2) := by decide +kernel
theorem dX10_begin_5 : decode cX10_begin 5 = .ok (.if_icmp .gt 19, 3) := by decide +kernel
theorem dX10_begin_8 : decode cX10_begin 8 = .ok (.aload_n 0, 1) := by decide +kernel
theorem dX10_begin_9 : decode cX10_begin 9 = .ok (.getfield 15, 3) := by decide +kernel
theorem dX10_begin_12 : decode cX10_begin 12 = .ok (.iload_n 1, 1) := by decide +kernel
theorem dX10_begin_13 : decode cX10_begin 13 = .ok (.iload_n 1, 1) := by decide +kernel
theorem dX10_begin_14 : decode cX10_begin 14 = .ok (.bipush 64, 2) := by decide +kernel
theorem dX10_begin_16 : decode cX10_begin 16 = .ok (.imul, 1) := by decide +kernel
theorem dX10_begin_17 : decode cX10_begin 17 = .ok (.iastore, 1) := by decide +kernel
theorem dX10_begin_18 : decode cX10_begin 18 = .ok (.iinc 1 1, 3) := by decide +kernel
theorem dX10_begin_21 : decode cX10_begin 21 = .ok (.goto (-19), 3) := by decide +kernel
theorem dX10_begin_24 : decode cX10_begin 24 = .ok (.return_, 1) := by decide +kernel
theorem dX10_meet_0 : decode cX10_meet 0 = .ok (.aload_n 0, 1) := by decide +kernel
theorem dX10_meet_1 : decode cX10_meet 1 = .ok (.getfield 15, 3) := by decide +kernel
theorem dX10_meet_4 : decode cX10_meet 4 = .ok (.iconst 0, 1) := by decide +kernel
theorem dX10_meet_5 : decode cX10_meet 5 = .ok (.iaload, 1) := by decide +kernel
theorem dX10_meet_6 : decode cX10_meet 6 = .ok (.istore_n 3, 1) := by decide +kernel
theorem dX10_meet_7 : decode cX10_meet 7 = .ok (.aload_n 0, 1) := by decide +kernel
theorem dX10_meet_8 : decode cX10_meet 8 = .ok (.getfield 15, 3) := by decide +kernel
theorem dX10_meet_11 : decode cX10_meet 11 = .ok (.iconst 0, 1) := by decide +kernel
theorem dX10_meet_12 : decode cX10_meet 12 = .ok (.dup2, 1) := by decide +kernel
theorem dX10_meet_13 : decode cX10_meet 13 = .ok (.iaload, 1) := by decide +kernel
theorem dX10_meet_14 : decode cX10_meet 14 = .ok (.bipush 64, 2) := by decide +kernel
theorem dX10_meet_16 : decode cX10_meet 16 = .ok (.iadd, 1) := by decide +kernel
theorem dX10_meet_17 : decode cX10_meet 17 = .ok (.iastore, 1) := by decide +kernel
theorem dX10_meet_18 : decode cX10_meet 18 = .ok (.iconst 0, 1) := by decide +kernel
theorem dX10_meet_19 : decode cX10_meet 19 = .ok (.istore 4, 2) := by decide +kernel
theorem dX10_meet_21 : decode cX10_meet 21 = .ok (.iload 4, 2) := by decide +kernel
theorem dX10_meet_23 : decode cX10_meet 23 = .ok (.aload_n 0, 1) := by decide +kernel
theorem dX10_meet_24 : decode cX10_meet 24 = .ok (.getfield 18, 3) := by decide +kernel
theorem dX10_meet_27 : decode cX10_meet 27 = .ok (.if_icmp .ge 88, 3) := by decide +kernel
theorem dX10_meet_30 : decode cX10_meet 30 = .ok (.iload 4, 2) := by decide +kernel
theorem dX10_meet_32 : decode cX10_meet 32 = .ok (.bipush 30, 2) := by decide +kernel
theorem dX10_meet_34 : decode cX10_meet 34 = .ok (.if_icmp .ge 81, 3) := by decide +kernel
theorem dX10_meet_37 : decode cX10_meet 37 = .ok (.aload_n 0, 1) := by decide +kernel
theorem dX10_meet_38 : decode cX10_meet 38 = .ok (.getfield 15, 3) := by decide +kernel
theorem dX10_meet_41 : decode cX10_meet 41 = .ok (.iload 4, 2) := by decide +kernel
theorem dX10_meet_43 : decode cX10_meet 43 = .ok (.iconst 1, 1) := by decide +kernel
theorem dX10_meet_44 : decode cX10_meet 44 = .ok (.iadd, 1) := by decide +kernel
theorem dX10_meet_45 : decode cX10_meet 45 = .ok (.iaload, 1) := by decide +kernel
theorem dX10_meet_46 : decode cX10_meet 46 = .ok (.istore 5, 2) := by decide +kernel
theorem dX10_meet_48 : decode cX10_meet 48 = .ok (.aload_n 0, 1) := by decide +kernel
theorem dX10_meet_49 : decode cX10_meet 49 = .ok (.getfield 11, 3) := by decide +kernel
theorem dX10_meet_52 : decode cX10_meet 52 = .ok (.iload 4, 2) := by decide +kernel
theorem dX10_meet_54 : decode cX10_meet 54 = .ok (.iaload, 1) := by decide +kernel
theorem dX10_meet_55 : decode cX10_meet 55 = .ok (.iload_n 1, 1) := by decide +kernel
theorem dX10_meet_56 : decode cX10_meet 56 = .ok (.if_icmp .eq 8, 3) := by decide +kernel
theorem dX10_meet_59 : decode cX10_meet 59 = .ok (.bipush 64, 2) := by decide +kernel
theorem dX10_meet_61 : decode cX10_meet 61 = .ok (.goto 12, 3) := by decide +kernel
theorem dX10_meet_64 : decode cX10_meet 64 = .ok (.iload_n 2, 1) := by decide +kernel
theorem dX10_meet_65 : decode cX10_meet 65 = .ok (.ifCond .eq 7, 3) := by decide +kernel
theorem dX10_meet_68 : decode cX10_meet 68 = .ok (.iconst (-1), 1) := by decide +kernel
theorem dX10_meet_69 : decode cX10_meet 69 = .ok (.goto 4, 3) := by decide +kernel
theorem dX10_meet_72 : decode cX10_meet 72 = .ok (.iconst 0, 1) := by decide +kernel
theorem dX10_meet_73 : decode cX10_meet 73 = .ok (.istore 6, 2) := by decide +kernel
theorem dX10_meet_75 : decode cX10_meet 75 = .ok (.aload_n 0, 1) := by decide +kernel
theorem dX10_meet_76 : decode cX10_meet 76 = .ok (.getfield 15, 3) := by decide +kernel
theorem dX10_meet_79 : decode cX10_meet 79 = .ok (.iload 4, 2) := by decide +kernel
theorem dX10_meet_81 : decode cX10_meet 81 = .ok (.iconst 1, 1) := by decide +kernel
theorem dX10_meet_82 : decode cX10_meet 82 = .ok (.iadd, 1) := by decide +kernel
theorem dX10_meet_83 : decode cX10_meet 83 = .ok (.iload_n 3, 1) := by decide +kernel
theorem dX10_meet_84 : decode cX10_meet 84 = .ok (.iload 6, 2) := by decide +kernel
theorem dX10_meet_86 : decode cX10_meet 86 = .ok (.iadd, 1) := by decide +kernel
theorem dX10_meet_87 : decode cX10_meet 87 = .ok (.iload 5, 2) := by decide +kernel
theorem dX10_meet_89 : decode cX10_meet 89 = .ok (.aload_n 0, 1) := by decide +kernel
theorem dX10_meet_90 : decode cX10_meet 90 = .ok (.getfield 15, 3) := by decide +kernel
theorem dX10_meet_93 : decode cX10_meet 93 = .ok (.iload 4, 2) := by decide +kernel
theorem dX10_meet_95 : decode cX10_meet 95 = .ok (.iaload, 1) := by decide +kernel
theorem dX10_meet_96 : decode cX10_meet 96 = .ok (.invokestatic 22, 3) := by decide +kernel
theorem dX10_meet_99 : decode cX10_meet 99 = .ok (.bipush 64, 2) := by decide +kernel
theorem dX10_meet_101 : decode cX10_meet 101 = .ok (.iadd, 1) := by decide +kernel
theorem dX10_meet_102 : decode cX10_meet 102 = .ok (.invokestatic 22, 3) := by decide +kernel
theorem dX10_meet_105 : decode cX10_meet 105 = .ok (.iastore, 1) := by decide +kernel
theorem dX10_meet_106 : decode cX10_meet 106 = .ok (.iload 5, 2) := by decide +kernel
theorem dX10_meet_108 : decode cX10_meet 108 = .ok (.istore_n 3, 1) := by decide +kernel
theorem dX10_meet_109 : decode cX10_meet 109 = .ok (.iinc 4 1, 3) := by decide +kernel
theorem dX10_meet_112 : decode cX10_meet 112 = .ok (.goto (-91), 3) := by decide +kernel
theorem dX10_meet_115 : decode cX10_meet 115 = .ok (.return_, 1) := by decide +kernel
theorem dX10_weightOfAll_0 : decode cX10_weightOfAll 0 = .ok (.aload_n 0, 1) := by decide +kernel
theorem dX10_weightOfAll_1 : decode cX10_weightOfAll 1 = .ok (.getfield 18, 3) := by decide +kernel
theorem dX10_weightOfAll_4 : decode cX10_weightOfAll 4 = .ok (.ifCond .lt 24, 3) := by decide +kernel
theorem dX10_weightOfAll_7 : decode cX10_weightOfAll 7 = .ok (.aload_n 0, 1) := by decide +kernel
theorem dX10_weightOfAll_8 : decode cX10_weightOfAll 8 = .ok (.getfield 18, 3) := by decide +kernel
theorem dX10_weightOfAll_11 : decode cX10_weightOfAll 11 = .ok (.bipush 30, 2) := by decide +kernel
theorem dX10_weightOfAll_13 : decode cX10_weightOfAll 13 = .ok (.if_icmp .gt 15, 3) := by decide +kernel
theorem dX10_weightOfAll_16 : decode cX10_weightOfAll 16 = .ok (.aload_n 0, 1) := by decide +kernel
theorem dX10_weightOfAll_17 : decode cX10_weightOfAll 17 = .ok (.getfield 15, 3) := by decide +kernel
theorem dX10_weightOfAll_20 : decode cX10_weightOfAll 20 = .ok (.aload_n 0, 1) := by decide +kernel
theorem dX10_weightOfAll_21 : decode cX10_weightOfAll 21 = .ok (.getfield 18, 3) := by decide +kernel
theorem dX10_weightOfAll_24 : decode cX10_weightOfAll 24 = .ok (.iaload, 1) := by decide +kernel
theorem dX10_weightOfAll_25 : decode cX10_weightOfAll 25 = .ok (.goto 4, 3) := by decide +kernel
theorem dX10_weightOfAll_28 : decode cX10_weightOfAll 28 = .ok (.iconst 0, 1) := by decide +kernel
theorem dX10_weightOfAll_29 : decode cX10_weightOfAll 29 = .ok (.ireturn, 1) := by decide +kernel
theorem dX10_changes_0 : decode cX10_changes 0 = .ok (.aload_n 0, 1) := by decide +kernel
theorem dX10_changes_1 : decode cX10_changes 1 = .ok (.invokevirtual 28, 3) := by decide +kernel
theorem dX10_changes_4 : decode cX10_changes 4 = .ok (.bipush 64, 2) := by decide +kernel
theorem dX10_changes_6 : decode cX10_changes 6 = .ok (.iadd, 1) := by decide +kernel
theorem dX10_changes_7 : decode cX10_changes 7 = .ok (.iconst 1, 1) := by decide +kernel
theorem dX10_changes_8 : decode cX10_changes 8 = .ok (.isub, 1) := by decide +kernel
theorem dX10_changes_9 : decode cX10_changes 9 = .ok (.bipush 64, 2) := by decide +kernel
theorem dX10_changes_11 : decode cX10_changes 11 = .ok (.idiv, 1) := by decide +kernel
theorem dX10_changes_12 : decode cX10_changes 12 = .ok (.ireturn, 1) := by decide +kernel
theorem dX10_shared_0 : decode cX10_shared 0 = .ok (.aload_n 0, 1) := by decide +kernel
theorem dX10_shared_1 : decode cX10_shared 1 = .ok (.invokevirtual 32, 3) := by decide +kernel
theorem dX10_shared_4 : decode cX10_shared 4 = .ok (.bipush 64, 2) := by decide +kernel
theorem dX10_shared_6 : decode cX10_shared 6 = .ok (.imul, 1) := by decide +kernel
theorem dX10_shared_7 : decode cX10_shared 7 = .ok (.aload_n 0, 1) := by decide +kernel
theorem dX10_shared_8 : decode cX10_shared 8 = .ok (.invokevirtual 28, 3) := by decide +kernel
theorem dX10_shared_11 : decode cX10_shared 11 = .ok (.isub, 1) := by decide +kernel
theorem dX10_shared_12 : decode cX10_shared 12 = .ok (.ireturn, 1) := by decide +kernel
theorem dX11_init_0 : decode cX11_init 0 = .ok (.aload_n 0, 1) := by decide +kernel
theorem dX11_init_1 : decode cX11_init 1 = .ok (.invokespecial 3, 3) := by decide +kernel
theorem dX11_init_4 : decode cX11_init 4 = .ok (.aload_n 0, 1) := by decide +kernel
theorem dX11_init_5 : decode cX11_init 5 = .ok (.iconst (-1), 1) := by decide +kernel
theorem dX11_init_6 : decode cX11_init 6 = .ok (.putfield 9, 3) := by decide +kernel
theorem dX11_init_9 : decode cX11_init 9 = .ok (.aload_n 0, 1) := by decide +kernel
theorem dX11_init_10 : decode cX11_init 10 = .ok (.iconst 0, 1) := by decide +kernel
theorem dX11_init_11 : decode cX11_init 11 = .ok (.newarray .int, 2) := by decide +kernel
theorem dX11_init_13 : decode cX11_init 13 = .ok (.putfield 15, 3) := by decide +kernel
theorem dX11_init_16 : decode cX11_init 16 = .ok (.aload_n 0, 1) := by decide +kernel
theorem dX11_init_17 : decode cX11_init 17 = .ok (.iconst 0, 1) := by decide +kernel
theorem dX11_init_18 : decode cX11_init 18 = .ok (.newarray .int, 2) := by decide +kernel
theorem dX11_init_20 : decode cX11_init 20 = .ok (.putfield 19, 3) := by decide +kernel
theorem dX11_init_23 : decode cX11_init 23 = .ok (.aload_n 0, 1) := by decide +kernel
theorem dX11_init_24 : decode cX11_init 24 = .ok (.bipush 25, 2) := by decide +kernel
theorem dX11_init_26 : decode cX11_init 26 = .ok (.iconst 5, 1) := by decide +kernel
theorem dX11_init_27 : decode cX11_init 27 = .ok (.iload_n 1, 1) := by decide +kernel
theorem dX11_init_28 : decode cX11_init 28 = .ok (.imul, 1) := by decide +kernel
theorem dX11_init_29 : decode cX11_init 29 = .ok (.iconst 4, 1) := by decide +kernel
theorem dX11_init_30 : decode cX11_init 30 = .ok (.iadd, 1) := by decide +kernel
theorem dX11_init_31 : decode cX11_init 31 = .ok (.invokestatic 22, 3) := by decide +kernel
theorem dX11_init_34 : decode cX11_init 34 = .ok (.putfield 28, 3) := by decide +kernel
theorem dX11_init_37 : decode cX11_init 37 = .ok (.return_, 1) := by decide +kernel
theorem dX11_addLaid_0 : decode cX11_addLaid 0 = .ok (.aload_n 0, 1) := by decide +kernel
theorem dX11_addLaid_1 : decode cX11_addLaid 1 = .ok (.getfield 31, 3) := by decide +kernel
theorem dX11_addLaid_4 : decode cX11_addLaid 4 = .ok (.ifCond .lt 35, 3) := by decide +kernel
theorem dX11_addLaid_7 : decode cX11_addLaid 7 = .ok (.aload_n 0, 1) := by decide +kernel
theorem dX11_addLaid_8 : decode cX11_addLaid 8 = .ok (.getfield 31, 3) := by decide +kernel
theorem dX11_addLaid_11 : decode cX11_addLaid 11 = .ok (.aload_n 0, 1) := by decide +kernel
theorem dX11_addLaid_12 : decode cX11_addLaid 12 = .ok (.getfield 19, 3) := by decide +kernel
theorem dX11_addLaid_15 : decode cX11_addLaid 15 = .ok (.arraylength, 1) := by decide +kernel
theorem dX11_addLaid_16 : decode cX11_addLaid 16 = .ok (.if_icmp .ge 23, 3) := by decide +kernel
theorem dX11_addLaid_19 : decode cX11_addLaid 19 = .ok (.aload_n 0, 1) := by decide +kernel
theorem dX11_addLaid_20 : decode cX11_addLaid 20 = .ok (.getfield 19, 3) := by decide +kernel
theorem dX11_addLaid_23 : decode cX11_addLaid 23 = .ok (.aload_n 0, 1) := by decide +kernel
theorem dX11_addLaid_24 : decode cX11_addLaid 24 = .ok (.getfield 31, 3) := by decide +kernel
theorem dX11_addLaid_27 : decode cX11_addLaid 27 = .ok (.iload_n 1, 1) := by decide +kernel
theorem dX11_addLaid_28 : decode cX11_addLaid 28 = .ok (.iastore, 1) := by decide +kernel
theorem dX11_addLaid_29 : decode cX11_addLaid 29 = .ok (.aload_n 0, 1) := by decide +kernel
theorem dX11_addLaid_30 : decode cX11_addLaid 30 = .ok (.dup, 1) := by decide +kernel
theorem dX11_addLaid_31 : decode cX11_addLaid 31 = .ok (.getfield 31, 3) := by decide +kernel
theorem dX11_addLaid_34 : decode cX11_addLaid 34 = .ok (.iconst 1, 1) := by decide +kernel
theorem dX11_addLaid_35 : decode cX11_addLaid 35 = .ok (.iadd, 1) := by decide +kernel
theorem dX11_addLaid_36 : decode cX11_addLaid 36 = .ok (.putfield 31, 3) := by decide +kernel
theorem dX11_addLaid_39 : decode cX11_addLaid 39 = .ok (.return_, 1) := by decide +kernel
theorem dX11_laidAt_0 : decode cX11_laidAt 0 = .ok (.iload_n 1, 1) := by decide +kernel
theorem dX11_laidAt_1 : decode cX11_laidAt 1 = .ok (.ifCond .lt 29, 3) := by decide +kernel
theorem dX11_laidAt_4 : decode cX11_laidAt 4 = .ok (.iload_n 1, 1) := by decide +kernel
theorem dX11_laidAt_5 : decode cX11_laidAt 5 = .ok (.aload_n 0, 1) := by decide +kernel
theorem dX11_laidAt_6 : decode cX11_laidAt 6 = .ok (.getfield 31, 3) := by decide +kernel
theorem dX11_laidAt_9 : decode cX11_laidAt 9 = .ok (.if_icmp .ge 21, 3) := by decide +kernel
theorem dX11_laidAt_12 : decode cX11_laidAt 12 = .ok (.iload_n 1, 1) := by decide +kernel
theorem dX11_laidAt_13 : decode cX11_laidAt 13 = .ok (.aload_n 0, 1) := by decide +kernel
theorem dX11_laidAt_14 : decode cX11_laidAt 14 = .ok (.getfield 19, 3) := by decide +kernel
theorem dX11_laidAt_17 : decode cX11_laidAt 17 = .ok (.arraylength, 1) := by decide +kernel
theorem dX11_laidAt_18 : decode cX11_laidAt 18 = .ok (.if_icmp .ge 12, 3) := by decide +kernel
theorem dX11_laidAt_21 : decode cX11_laidAt 21 = .ok (.aload_n 0, 1) := by decide +kernel
theorem dX11_laidAt_22 : decode cX11_laidAt 22 = .ok (.getfield 19, 3) := by decide +kernel
theorem dX11_laidAt_25 : decode cX11_laidAt 25 = .ok (.iload_n 1, 1) := by decide +kernel
theorem dX11_laidAt_26 : decode cX11_laidAt 26 = .ok (.iaload, 1) := by decide +kernel
theorem dX11_laidAt_27 : decode cX11_laidAt 27 = .ok (.goto 4, 3) := by decide +kernel
theorem dX11_laidAt_30 : decode cX11_laidAt 30 = .ok (.iconst (-1), 1) := by decide +kernel
theorem dX11_laidAt_31 : decode cX11_laidAt 31 = .ok (.ireturn, 1) := by decide +kernel
theorem dX12_init_0 : decode cX12_init 0 = .ok (.aload_n 0, 1) := by decide +kernel
theorem dX12_init_1 : decode cX12_init 1 = .ok (.invokespecial 1, 3) := by decide +kernel
theorem dX12_init_4 : decode cX12_init 4 = .ok (.aload_n 0, 1) := by decide +kernel
theorem dX12_init_5 : decode cX12_init 5 = .ok (.new 7, 3) := by decide +kernel
theorem dX12_init_8 : decode cX12_init 8 = .ok (.dup, 1) := by decide +kernel
theorem dX12_init_9 : decode cX12_init 9 = .ok (.invokespecial 9, 3) := by decide +kernel
theorem dX12_init_12 : decode cX12_init 12 = .ok (.putfield 10, 3) := by decide +kernel
theorem dX12_init_15 : decode cX12_init 15 = .ok (.aload_n 0, 1) := by decide +kernel
theorem dX12_init_16 : decode cX12_init 16 = .ok (.new 16, 3) := by decide +kernel
theorem dX12_init_19 : decode cX12_init 19 = .ok (.dup, 1) := by decide +kernel
theorem dX12_init_20 : decode cX12_init 20 = .ok (.invokespecial 18, 3) := by decide +kernel
theorem dX12_init_23 : decode cX12_init 23 = .ok (.putfield 19, 3) := by decide +kernel
theorem dX12_init_26 : decode cX12_init 26 = .ok (.aload_n 0, 1) := by decide +kernel
theorem dX12_init_27 : decode cX12_init 27 = .ok (.new 23, 3) := by decide +kernel
theorem dX12_init_30 : decode cX12_init 30 = .ok (.dup, 1) := by decide +kernel
theorem dX12_init_31 : decode cX12_init 31 = .ok (.aload_n 0, 1) := by decide +kernel
theorem dX12_init_32 : decode cX12_init 32 = .ok (.getfield 19, 3) := by decide +kernel
theorem dX12_init_35 : decode cX12_init 35 = .ok (.invokespecial 25, 3) := by decide +kernel
theorem dX12_init_38 : decode cX12_init 38 = .ok (.putfield 28, 3) := by decide +kernel
theorem dX12_init_41 : decode cX12_init 41 = .ok (.aload_n 0, 1) := by decide +kernel
theorem dX12_init_42 : decode cX12_init 42 = .ok (.bipush 6, 2) := by decide +kernel
theorem dX12_init_44 : decode cX12_init 44 = .ok (.anewarray 32, 3) := by decide +kernel
theorem dX12_init_47 : decode cX12_init 47 = .ok (.putfield 34, 3) := by decide +kernel
theorem dX12_init_50 : decode cX12_init 50 = .ok (.iconst 0, 1) := by decide +kernel
theorem dX12_init_51 : decode cX12_init 51 = .ok (.istore_n 1, 1) := by decide +kernel
theorem dX12_init_52 : decode cX12_init 52 = .ok (.iload_n 1, 1) := by decide +kernel
theorem dX12_init_53 : decode cX12_init 53 = .ok (.bipush 6, 2) := by decide +kernel
theorem dX12_init_55 : decode cX12_init 55 = .ok (.if_icmp .ge 23, 3) := by decide +kernel
theorem dX12_init_58 : decode cX12_init 58 = .ok (.aload_n 0, 1) := by decide +kernel
theorem dX12_init_59 : decode cX12_init 59 = .ok (.getfield 34, 3) := by decide +kernel
theorem dX12_init_62 : decode cX12_init 62 = .ok (.iload_n 1, 1) := by decide +kernel
theorem dX12_init_63 : decode cX12_init 63 = .ok (.new 32, 3) := by decide +kernel
theorem dX12_init_66 : decode cX12_init 66 = .ok (.dup, 1) := by decide +kernel
theorem dX12_init_67 : decode cX12_init 67 = .ok (.iload_n 1, 1) := by decide +kernel
theorem dX12_init_68 : decode cX12_init 68 = .ok (.invokespecial 38, 3) := by decide +kernel
theorem dX12_init_71 : decode cX12_init 71 = .ok (.aastore, 1) := by decide +kernel
theorem dX12_init_72 : decode cX12_init 72 = .ok (.iinc 1 1, 3) := by decide +kernel
theorem dX12_init_75 : decode cX12_init 75 = .ok (.goto (-23), 3) := by decide +kernel
theorem dX12_init_78 : decode cX12_init 78 = .ok (.aload_n 0, 1) := by decide +kernel
theorem dX12_init_79 : decode cX12_init 79 = .ok (.bipush 60, 2) := by decide +kernel
theorem dX12_init_81 : decode cX12_init 81 = .ok (.anewarray 41, 3) := by decide +kernel
theorem dX12_init_84 : decode cX12_init 84 = .ok (.putfield 43, 3) := by decide +kernel
theorem dX12_init_87 : decode cX12_init 87 = .ok (.aload_n 0, 1) := by decide +kernel
theorem dX12_init_88 : decode cX12_init 88 = .ok (.bipush 60, 2) := by decide +kernel
theorem dX12_init_90 : decode cX12_init 90 = .ok (.newarray .int, 2) := by decide +kernel
theorem dX12_init_92 : decode cX12_init 92 = .ok (.putfield 47, 3) := by decide +kernel
theorem dX12_init_95 : decode cX12_init 95 = .ok (.aload_n 0, 1) := by decide +kernel
theorem dX12_init_96 : decode cX12_init 96 = .ok (.bipush 12, 2) := by decide +kernel
theorem dX12_init_98 : decode cX12_init 98 = .ok (.anewarray 51, 3) := by decide +kernel
theorem dX12_init_101 : decode cX12_init 101 = .ok (.putfield 53, 3) := by decide +kernel
theorem dX12_init_104 : decode cX12_init 104 = .ok (.aload_n 0, 1) := by decide +kernel
theorem dX12_init_105 : decode cX12_init 105 = .ok (.sipush 300, 3) := by decide +kernel
theorem dX12_init_108 : decode cX12_init 108 = .ok (.anewarray 57, 3) := by decide +kernel
theorem dX12_init_111 : decode cX12_init 111 = .ok (.putfield 59, 3) := by decide +kernel
theorem dX12_init_114 : decode cX12_init 114 = .ok (.aload_n 0, 1) := by decide +kernel
theorem dX12_init_115 : decode cX12_init 115 = .ok (.new 63, 3) := by decide +kernel
theorem dX12_init_118 : decode cX12_init 118 = .ok (.dup, 1) := by decide +kernel
theorem dX12_init_119 : decode cX12_init 119 = .ok (.invokespecial 65, 3) := by decide +kernel
theorem dX12_init_122 : decode cX12_init 122 = .ok (.putfield 66, 3) := by decide +kernel
theorem dX12_init_125 : decode cX12_init 125 = .ok (.aload_n 0, 1) := by decide +kernel
theorem dX12_init_126 : decode cX12_init 126 = .ok (.bipush 10, 2) := by decide +kernel
theorem dX12_init_128 : decode cX12_init 128 = .ok (.newarray .int, 2) := by decide +kernel
theorem dX12_init_130 : decode cX12_init 130 = .ok (.putfield 70, 3) := by decide +kernel
theorem dX12_init_133 : decode cX12_init 133 = .ok (.aload_n 0, 1) := by decide +kernel
theorem dX12_init_134 : decode cX12_init 134 = .ok (.bipush 10, 2) := by decide +kernel
theorem dX12_init_136 : decode cX12_init 136 = .ok (.newarray .int, 2) := by decide +kernel
theorem dX12_init_138 : decode cX12_init 138 = .ok (.putfield 73, 3) := by decide +kernel
theorem dX12_init_141 : decode cX12_init 141 = .ok (.aload_n 0, 1) := by decide +kernel
theorem dX12_init_142 : decode cX12_init 142 = .ok (.getfield 70, 3) := by decide +kernel
theorem dX12_init_145 : decode cX12_init 145 = .ok (.iconst (-1), 1) := by decide +kernel
theorem dX12_init_146 : decode cX12_init 146 = .ok (.invokestatic 76, 3) := by decide +kernel
theorem dX12_init_149 : decode cX12_init 149 = .ok (.aload_n 0, 1) := by decide +kernel
theorem dX12_init_150 : decode cX12_init 150 = .ok (.new 82, 3) := by decide +kernel
theorem dX12_init_153 : decode cX12_init 153 = .ok (.dup, 1) := by decide +kernel
theorem dX12_init_154 : decode cX12_init 154 = .ok (.invokespecial 84, 3) := by decide +kernel
theorem dX12_init_157 : decode cX12_init 157 = .ok (.putfield 85, 3) := by decide +kernel
theorem dX12_init_160 : decode cX12_init 160 = .ok (.aload_n 0, 1) := by decide +kernel
theorem dX12_init_161 : decode cX12_init 161 = .ok (.new 89, 3) := by decide +kernel
theorem dX12_init_164 : decode cX12_init 164 = .ok (.dup, 1) := by decide +kernel
theorem dX12_init_165 : decode cX12_init 165 = .ok (.invokespecial 91, 3) := by decide +kernel
theorem dX12_init_168 : decode cX12_init 168 = .ok (.putfield 92, 3) := by decide +kernel
theorem dX12_init_171 : decode cX12_init 171 = .ok (.aload_n 0, 1) := by decide +kernel
theorem dX12_init_172 : decode cX12_init 172 = .ok (.new 96, 3) := by decide +kernel
theorem dX12_init_175 : decode cX12_init 175 = .ok (.dup, 1) := by decide +kernel
theorem dX12_init_176 : decode cX12_init 176 = .ok (.invokespecial 98, 3) := by decide +kernel
theorem dX12_init_179 : decode cX12_init 179 = .ok (.putfield 99, 3) := by decide +kernel
theorem dX12_init_182 : decode cX12_init 182 = .ok (.return_, 1) := by decide +kernel
theorem dX12_feed_0 : decode cX12_feed 0 = .ok (.aload_n 0, 1) := by decide +kernel
theorem dX12_feed_1 : decode cX12_feed 1 = .ok (.getfield 10, 3) := by decide +kernel
theorem dX12_feed_4 : decode cX12_feed 4 = .ok (.getfield 103, 3) := by decide +kernel
theorem dX12_feed_7 : decode cX12_feed 7 = .ok (.bipush 20, 2) := by decide +kernel
theorem dX12_feed_9 : decode cX12_feed 9 = .ok (.iadd, 1) := by decide +kernel
theorem dX12_feed_10 : decode cX12_feed 10 = .ok (.sipush 600, 3) := by decide +kernel
theorem dX12_feed_13 : decode cX12_feed 13 = .ok (.if_icmp .le 5, 3) := by decide +kernel
theorem dX12_feed_16 : decode cX12_feed 16 = .ok (.iconst (-1), 1) := by decide +kernel
theorem dX12_feed_17 : decode cX12_feed 17 = .ok (.ireturn, 1) := by decide +kernel
theorem dX12_feed_18 : decode cX12_feed 18 = .ok (.aload_n 0, 1) := by decide +kernel
theorem dX12_feed_19 : decode cX12_feed 19 = .ok (.getfield 10, 3) := by decide +kernel
theorem dX12_feed_22 : decode cX12_feed 22 = .ok (.iload_n 1, 1) := by decide +kernel
theorem dX12_feed_23 : decode cX12_feed 23 = .ok (.invokevirtual 107, 3) := by decide +kernel
theorem dX12_feed_26 : decode cX12_feed 26 = .ok (.aload_n 0, 1) := by decide +kernel
theorem dX12_feed_27 : decode cX12_feed 27 = .ok (.getfield 10, 3) := by decide +kernel
theorem dX12_feed_30 : decode cX12_feed 30 = .ok (.iload_n 2, 1) := by decide +kernel
theorem dX12_feed_31 : decode cX12_feed 31 = .ok (.invokevirtual 107, 3) := by decide +kernel
theorem dX12_feed_34 : decode cX12_feed 34 = .ok (.aload_n 0, 1) := by decide +kernel
theorem dX12_feed_35 : decode cX12_feed 35 = .ok (.getfield 10, 3) := by decide +kernel
theorem dX12_feed_38 : decode cX12_feed 38 = .ok (.iload_n 3, 1) := by decide +kernel
theorem dX12_feed_39 : decode cX12_feed 39 = .ok (.invokevirtual 107, 3) := by decide +kernel
theorem dX12_feed_42 : decode cX12_feed 42 = .ok (.aload_n 0, 1) := by decide +kernel
theorem dX12_feed_43 : decode cX12_feed 43 = .ok (.getfield 10, 3) := by decide +kernel
theorem dX12_feed_46 : decode cX12_feed 46 = .ok (.iload 4, 2) := by decide +kernel
theorem dX12_feed_48 : decode cX12_feed 48 = .ok (.invokevirtual 107, 3) := by decide +kernel
theorem dX12_feed_51 : decode cX12_feed 51 = .ok (.aload_n 0, 1) := by decide +kernel
theorem dX12_feed_52 : decode cX12_feed 52 = .ok (.getfield 10, 3) := by decide +kernel
theorem dX12_feed_55 : decode cX12_feed 55 = .ok (.iload 5, 2) := by decide +kernel
theorem dX12_feed_57 : decode cX12_feed 57 = .ok (.invokevirtual 107, 3) := by decide +kernel
theorem dX12_feed_60 : decode cX12_feed 60 = .ok (.aload_n 0, 1) := by decide +kernel
theorem dX12_feed_61 : decode cX12_feed 61 = .ok (.getfield 10, 3) := by decide +kernel
theorem dX12_feed_64 : decode cX12_feed 64 = .ok (.getfield 103, 3) := by decide +kernel
theorem dX12_feed_67 : decode cX12_feed 67 = .ok (.ireturn, 1) := by decide +kernel
theorem dX12_end_0 : decode cX12_end 0 = .ok (.iload_n 1, 1) := by decide +kernel
theorem dX12_end_1 : decode cX12_end 1 = .ok (.ifCond .lt 14, 3) := by decide +kernel
theorem dX12_end_4 : decode cX12_end 4 = .ok (.iload_n 1, 1) := by decide +kernel
theorem dX12_end_5 : decode cX12_end 5 = .ok (.aload_n 0, 1) := by decide +kernel
theorem dX12_end_6 : decode cX12_end 6 = .ok (.getfield 10, 3) := by decide +kernel
theorem dX12_end_9 : decode cX12_end 9 = .ok (.getfield 103, 3) := by decide +kernel
theorem dX12_end_12 : decode cX12_end 12 = .ok (.if_icmp .le 5, 3) := by decide +kernel
theorem dX12_end_15 : decode cX12_end 15 = .ok (.iconst 0, 1) := by decide +kernel
theorem dX12_end_16 : decode cX12_end 16 = .ok (.ireturn, 1) := by decide +kernel
theorem dX12_end_17 : decode cX12_end 17 = .ok (.aload_n 0, 1) := by decide +kernel
theorem dX12_end_18 : decode cX12_end 18 = .ok (.getfield 10, 3) := by decide +kernel
theorem dX12_end_21 : decode cX12_end 21 = .ok (.iload_n 1, 1) := by decide +kernel
theorem dX12_end_22 : decode cX12_end 22 = .ok (.putfield 103, 3) := by decide +kernel
theorem dX12_end_25 : decode cX12_end 25 = .ok (.iconst 1, 1) := by decide +kernel
theorem dX12_end_26 : decode cX12_end 26 = .ok (.ireturn, 1) := by decide +kernel
theorem dX12_fault_0 : decode cX12_fault 0 = .ok (.aload_n 0, 1) := by decide +kernel
theorem dX12_fault_1 : decode cX12_fault 1 = .ok (.getfield 10, 3) := by decide +kernel
theorem dX12_fault_4 : decode cX12_fault 4 = .ok (.invokevirtual 110, 3) := by decide +kernel
theorem dX12_fault_7 : decode cX12_fault 7 = .ok (.ireturn, 1) := by decide +kernel
theorem dX12_sheet_0 : decode cX12_sheet 0 = .ok (.aload_n 0, 1) := by decide +kernel
theorem dX12_sheet_1 : decode cX12_sheet 1 = .ok (.getfield 19, 3) := by decide +kernel
theorem dX12_sheet_4 : decode cX12_sheet 4 = .ok (.invokevirtual 114, 3) := by decide +kernel
theorem dX12_sheet_7 : decode cX12_sheet 7 = .ok (.ifCond .eq 14, 3) := by decide +kernel
theorem dX12_sheet_10 : decode cX12_sheet 10 = .ok (.aload_n 0, 1) := by decide +kernel
theorem dX12_sheet_11 : decode cX12_sheet 11 = .ok (.getfield 10, 3) := by decide +kernel
theorem dX12_sheet_14 : decode cX12_sheet 14 = .ok (.invokevirtual 110, 3) := by decide +kernel
theorem dX12_sheet_17 : decode cX12_sheet 17 = .ok (.iconst (-1), 1) := by decide +kernel
theorem dX12_sheet_18 : decode cX12_sheet 18 = .ok (.if_icmp .eq 5, 3) := by decide +kernel
theorem dX12_sheet_21 : decode cX12_sheet 21 = .ok (.iconst (-1), 1) := by decide +kernel
theorem dX12_sheet_22 : decode cX12_sheet 22 = .ok (.ireturn, 1) := by decide +kernel
theorem dX12_sheet_23 : decode cX12_sheet 23 = .ok (.aload_n 0, 1) := by decide +kernel
theorem dX12_sheet_24 : decode cX12_sheet 24 = .ok (.getfield 19, 3) := by decide +kernel
theorem dX12_sheet_27 : decode cX12_sheet 27 = .ok (.aload_n 0, 1) := by decide +kernel
theorem dX12_sheet_28 : decode cX12_sheet 28 = .ok (.getfield 10, 3) := by decide +kernel
theorem dX12_sheet_31 : decode cX12_sheet 31 = .ok (.invokevirtual 118, 3) := by decide +kernel
theorem dX12_sheet_34 : decode cX12_sheet 34 = .ok (.invokevirtual 122, 3) := by decide +kernel
theorem dX12_sheet_37 : decode cX12_sheet 37 = .ok (.istore_n 1, 1) := by decide +kernel
theorem dX12_sheet_38 : decode cX12_sheet 38 = .ok (.aload_n 0, 1) := by decide +kernel
theorem dX12_sheet_39 : decode cX12_sheet 39 = .ok (.getfield 10, 3) := by decide +kernel
theorem dX12_sheet_42 : decode cX12_sheet 42 = .ok (.iconst 0, 1) := by decide +kernel
theorem dX12_sheet_43 : decode cX12_sheet 43 = .ok (.putfield 103, 3) := by decide +kernel
theorem dX12_sheet_46 : decode cX12_sheet 46 = .ok (.iload_n 1, 1) := by decide +kernel
theorem dX12_sheet_47 : decode cX12_sheet 47 = .ok (.ireturn, 1) := by decide +kernel
theorem dX12_force_0 : decode cX12_force 0 = .ok (.iload_n 2, 1) := by decide +kernel
theorem dX12_force_1 : decode cX12_force 1 = .ok (.iconst (-1), 1) := by decide +kernel
theorem dX12_force_2 : decode cX12_force 2 = .ok (.if_icmp .ne 7, 3) := by decide +kernel
theorem dX12_force_5 : decode cX12_force 5 = .ok (.iconst 1, 1) := by decide +kernel
theorem dX12_force_6 : decode cX12_force 6 = .ok (.goto 4, 3) := by decide +kernel
theorem dX12_force_9 : decode cX12_force 9 = .ok (.iconst 0, 1) := by decide +kernel
theorem dX12_force_10 : decode cX12_force 10 = .ok (.istore_n 3, 1) := by decide +kernel
theorem dX12_force_11 : decode cX12_force 11 = .ok (.iload_n 3, 1) := by decide +kernel
theorem dX12_force_12 : decode cX12_force 12 = .ok (.ifCond .ne 21, 3) := by decide +kernel
theorem dX12_force_15 : decode cX12_force 15 = .ok (.aload_n 0, 1) := by decide +kernel
theorem dX12_force_16 : decode cX12_force 16 = .ok (.iload_n 2, 1) := by decide +kernel
theorem dX12_force_17 : decode cX12_force 17 = .ok (.invokevirtual 126, 3) := by decide +kernel
theorem dX12_force_20 : decode cX12_force 20 = .ok (.ifCond .eq 11, 3) := by decide +kernel
theorem dX12_force_23 : decode cX12_force 23 = .ok (.aload_n 0, 1) := by decide +kernel
theorem dX12_force_24 : decode cX12_force 24 = .ok (.iload_n 2, 1) := by decide +kernel
theorem dX12_force_25 : decode cX12_force 25 = .ok (.invokevirtual 130, 3) := by decide +kernel
theorem dX12_force_28 : decode cX12_force 28 = .ok (.ifCond .eq 5, 3) := by decide +kernel
theorem dX12_force_31 : decode cX12_force 31 = .ok (.iconst (-1), 1) := by decide +kernel
theorem dX12_force_32 : decode cX12_force 32 = .ok (.ireturn, 1) := by decide +kernel
theorem dX12_force_33 : decode cX12_force 33 = .ok (.aload_n 0, 1) := by decide +kernel
theorem dX12_force_34 : decode cX12_force 34 = .ok (.getfield 19, 3) := by decide +kernel
theorem dX12_force_37 : decode cX12_force 37 = .ok (.iload_n 1, 1) := by decide +kernel
theorem dX12_force_38 : decode cX12_force 38 = .ok (.iload_n 2, 1) := by decide +kernel
theorem dX12_force_39 : decode cX12_force 39 = .ok (.aload_n 0, 1) := by decide +kernel
theorem dX12_force_40 : decode cX12_force 40 = .ok (.getfield 133, 3) := by decide +kernel
theorem dX12_force_43 : decode cX12_force 43 = .ok (.invokevirtual 136, 3) := by decide +kernel
theorem dX12_force_46 : decode cX12_force 46 = .ok (.istore 4, 2) := by decide +kernel
theorem dX12_force_48 : decode cX12_force 48 = .ok (.iload 4, 2) := by decide +kernel
theorem dX12_force_50 : decode cX12_force 50 = .ok (.iconst (-1), 1) := by decide +kernel
theorem dX12_force_51 : decode cX12_force 51 = .ok (.if_icmp .eq 11, 3) := by decide +kernel
theorem dX12_force_54 : decode cX12_force 54 = .ok (.iload_n 3, 1) := by decide +kernel
theorem dX12_force_55 : decode cX12_force 55 = .ok (.ifCond .eq 7, 3) := by decide +kernel
theorem dX12_force_58 : decode cX12_force 58 = .ok (.aload_n 0, 1) := by decide +kernel
theorem dX12_force_59 : decode cX12_force 59 = .ok (.invokevirtual 140, 3) := by decide +kernel
theorem dX12_force_62 : decode cX12_force 62 = .ok (.iload 4, 2) := by decide +kernel
theorem dX12_force_64 : decode cX12_force 64 = .ok (.ireturn, 1) := by decide +kernel
theorem dX12_rule_0 : decode cX12_rule 0 = .ok (.iload_n 1, 1) := by decide +kernel
theorem dX12_rule_1 : decode cX12_rule 1 = .ok (.invokestatic 143, 3) := by decide +kernel
theorem dX12_rule_4 : decode cX12_rule 4 = .ok (.istore 4, 2) := by decide +kernel
theorem dX12_rule_6 : decode cX12_rule 6 = .ok (.iload 4, 2) := by decide +kernel
theorem dX12_rule_8 : decode cX12_rule 8 = .ok (.iconst (-1), 1) := by decide +kernel
theorem dX12_rule_9 : decode cX12_rule 9 = .ok (.if_icmp .eq 23, 3) := by decide +kernel
theorem dX12_rule_12 : decode cX12_rule 12 = .ok (.aload_n 0, 1) := by decide +kernel
theorem dX12_rule_13 : decode cX12_rule 13 = .ok (.iload_n 2, 1) := by decide +kernel
theorem dX12_rule_14 : decode cX12_rule 14 = .ok (.invokevirtual 126, 3) := by decide +kernel
theorem dX12_rule_17 : decode cX12_rule 17 = .ok (.ifCond .eq 15, 3) := by decide +kernel
theorem dX12_rule_20 : decode cX12_rule 20 = .ok (.iload_n 3, 1) := by decide +kernel
theorem dX12_rule_21 : decode cX12_rule 21 = .ok (.ifCond .lt 11, 3) := by decide +kernel
theorem dX12_rule_24 : decode cX12_rule 24 = .ok (.iload_n 3, 1) := by decide +kernel
theorem dX12_rule_25 : decode cX12_rule 25 = .ok (.aload_n 0, 1) := by decide +kernel
theorem dX12_rule_26 : decode cX12_rule 26 = .ok (.getfield 133, 3) := by decide +kernel
theorem dX12_rule_29 : decode cX12_rule 29 = .ok (.if_icmp .le 5, 3) := by decide +kernel
theorem dX12_rule_32 : decode cX12_rule 32 = .ok (.iconst (-1), 1) := by decide +kernel
theorem dX12_rule_33 : decode cX12_rule 33 = .ok (.ireturn, 1) := by decide +kernel
theorem dX12_rule_34 : decode cX12_rule 34 = .ok (.aload_n 0, 1) := by decide +kernel
theorem dX12_rule_35 : decode cX12_rule 35 = .ok (.getfield 19, 3) := by decide +kernel
theorem dX12_rule_38 : decode cX12_rule 38 = .ok (.iload 4, 2) := by decide +kernel
theorem dX12_rule_40 : decode cX12_rule 40 = .ok (.iload_n 2, 1) := by decide +kernel
theorem dX12_rule_41 : decode cX12_rule 41 = .ok (.iload_n 3, 1) := by decide +kernel
theorem dX12_rule_42 : decode cX12_rule 42 = .ok (.invokevirtual 149, 3) := by decide +kernel
theorem dX12_rule_45 : decode cX12_rule 45 = .ok (.ireturn, 1) := by decide +kernel
theorem dX12_go_0 : decode cX12_go 0 = .ok (.iload_n 1, 1) := by decide +kernel
theorem dX12_go_1 : decode cX12_go 1 = .ok (.ifCond .lt 10, 3) := by decide +kernel
theorem dX12_go_4 : decode cX12_go 4 = .ok (.iload_n 1, 1) := by decide +kernel
theorem dX12_go_5 : decode cX12_go 5 = .ok (.sipush 300, 3) := by decide +kernel
theorem dX12_go_8 : decode cX12_go 8 = .ok (.if_icmp .le 5, 3) := by decide +kernel
theorem dX12_go_11 : decode cX12_go 11 = .ok (.iconst (-1), 1) := by decide +kernel
theorem dX12_go_12 : decode cX12_go 12 = .ok (.ireturn, 1) := by decide +kernel
theorem dX12_go_13 : decode cX12_go 13 = .ok (.aload_n 0, 1) := by decide +kernel
theorem dX12_go_14 : decode cX12_go 14 = .ok (.sipush 2000, 3) := by decide +kernel
theorem dX12_go_17 : decode cX12_go 17 = .ok (.aload_n 0, 1) := by decide +kernel
theorem dX12_go_18 : decode cX12_go 18 = .ok (.getfield 133, 3) := by decide +kernel
theorem dX12_go_21 : decode cX12_go 21 = .ok (.iload_n 1, 1) := by decide +kernel
theorem dX12_go_22 : decode cX12_go 22 = .ok (.iadd, 1) := by decide +kernel
theorem dX12_go_23 : decode cX12_go 23 = .ok (.invokestatic 152, 3) := by decide +kernel
theorem dX12_go_26 : decode cX12_go 26 = .ok (.putfield 133, 3) := by decide +kernel
theorem dX12_go_29 : decode cX12_go 29 = .ok (.aload_n 0, 1) := by decide +kernel
theorem dX12_go_30 : decode cX12_go 30 = .ok (.getfield 133, 3) := by decide +kernel
theorem dX12_go_33 : decode cX12_go 33 = .ok (.ireturn, 1) := by decide +kernel
theorem dX12_bound_0 : decode cX12_bound 0 = .ok (.iload_n 1, 1) := by decide +kernel
theorem dX12_bound_1 : decode cX12_bound 1 = .ok (.ifCond .lt 25, 3) := by decide +kernel
theorem dX12_bound_4 : decode cX12_bound 4 = .ok (.iload_n 1, 1) := by decide +kernel
theorem dX12_bound_5 : decode cX12_bound 5 = .ok (.iconst 5, 1) := by decide +kernel
theorem dX12_bound_6 : decode cX12_bound 6 = .ok (.if_icmp .ge 20, 3) := by decide +kernel
theorem dX12_bound_9 : decode cX12_bound 9 = .ok (.iload_n 2, 1) := by decide +kernel
theorem dX12_bound_10 : decode cX12_bound 10 = .ok (.ifCond .lt 16, 3) := by decide +kernel
theorem dX12_bound_13 : decode cX12_bound 13 = .ok (.iload_n 2, 1) := by decide +kernel
theorem dX12_bound_14 : decode cX12_bound 14 = .ok (.bipush 26, 2) := by decide +kernel
theorem dX12_bound_16 : decode cX12_bound 16 = .ok (.if_icmp .ge 10, 3) := by decide +kernel
theorem dX12_bound_19 : decode cX12_bound 19 = .ok (.aload_n 0, 1) := by decide +kernel
theorem dX12_bound_20 : decode cX12_bound 20 = .ok (.getfield 158, 3) := by decide +kernel
theorem dX12_bound_23 : decode cX12_bound 23 = .ok (.ifCond .eq 5, 3) := by decide +kernel
theorem dX12_bound_26 : decode cX12_bound 26 = .ok (.iconst 0, 1) := by decide +kernel
theorem dX12_bound_27 : decode cX12_bound 27 = .ok (.ireturn, 1) := by decide +kernel
theorem dX12_bound_28 : decode cX12_bound 28 = .ok (.aload_n 0, 1) := by decide +kernel
theorem dX12_bound_29 : decode cX12_bound 29 = .ok (.getfield 34, 3) := by decide +kernel
theorem dX12_bound_32 : decode cX12_bound 32 = .ok (.iload_n 1, 1) := by decide +kernel
theorem dX12_bound_33 : decode cX12_bound 33 = .ok (.aaload, 1) := by decide +kernel
theorem dX12_bound_34 : decode cX12_bound 34 = .ok (.astore_n 3, 1) := by decide +kernel
theorem dX12_bound_35 : decode cX12_bound 35 = .ok (.aload_n 3, 1) := by decide +kernel
theorem dX12_bound_36 : decode cX12_bound 36 = .ok (.ifnull 25, 3) := by decide +kernel
theorem dX12_bound_39 : decode cX12_bound 39 = .ok (.iload_n 2, 1) := by decide +kernel
theorem dX12_bound_40 : decode cX12_bound 40 = .ok (.aload_n 0, 1) := by decide +kernel
theorem dX12_bound_41 : decode cX12_bound 41 = .ok (.iload_n 1, 1) := by decide +kernel
theorem dX12_bound_42 : decode cX12_bound 42 = .ok (.iconst 1, 1) := by decide +kernel
theorem dX12_bound_43 : decode cX12_bound 43 = .ok (.isub, 1) := by decide +kernel
theorem dX12_bound_44 : decode cX12_bound 44 = .ok (.invokevirtual 161, 3) := by decide +kernel
theorem dX12_bound_47 : decode cX12_bound 47 = .ok (.if_icmp .lt 14, 3) := by decide +kernel
theorem dX12_bound_50 : decode cX12_bound 50 = .ok (.iload_n 2, 1) := by decide +kernel
theorem dX12_bound_51 : decode cX12_bound 51 = .ok (.aload_n 0, 1) := by decide +kernel
theorem dX12_bound_52 : decode cX12_bound 52 = .ok (.iload_n 1, 1) := by decide +kernel
theorem dX12_bound_53 : decode cX12_bound 53 = .ok (.iconst 1, 1) := by decide +kernel
theorem dX12_bound_54 : decode cX12_bound 54 = .ok (.iadd, 1) := by decide +kernel
theorem dX12_bound_55 : decode cX12_bound 55 = .ok (.invokevirtual 161, 3) := by decide +kernel
theorem dX12_bound_58 : decode cX12_bound 58 = .ok (.if_icmp .le 5, 3) := by decide +kernel
theorem dX12_bound_61 : decode cX12_bound 61 = .ok (.iconst 0, 1) := by decide +kernel
theorem dX12_bound_62 : decode cX12_bound 62 = .ok (.ireturn, 1) := by decide +kernel
theorem dX12_bound_63 : decode cX12_bound 63 = .ok (.aload_n 3, 1) := by decide +kernel
theorem dX12_bound_64 : decode cX12_bound 64 = .ok (.iload_n 2, 1) := by decide +kernel
theorem dX12_bound_65 : decode cX12_bound 65 = .ok (.putfield 164, 3) := by decide +kernel
theorem dX12_bound_68 : decode cX12_bound 68 = .ok (.aload_n 0, 1) := by decide +kernel
theorem dX12_bound_69 : decode cX12_bound 69 = .ok (.invokevirtual 140, 3) := by decide +kernel
theorem dX12_bound_72 : decode cX12_bound 72 = .ok (.iconst 1, 1) := by decide +kernel
theorem dX12_bound_73 : decode cX12_bound 73 = .ok (.ireturn, 1) := by decide +kernel
theorem dX12_lastLetter_0 : decode cX12_lastLetter 0 = .ok (.aload_n 0, 1) := by decide +kernel
theorem dX12_lastLetter_1 : decode cX12_lastLetter 1 = .ok (.iload_n 1, 1) := by decide +kernel
theorem dX12_lastLetter_2 : decode cX12_lastLetter 2 = .ok (.invokevirtual 166, 3) := by decide +kernel
theorem dX12_lastLetter_5 : decode cX12_lastLetter 5 = .ok (.astore_n 2, 1) := by decide +kernel
theorem dX12_lastLetter_6 : decode cX12_lastLetter 6 = .ok (.aload_n 2, 1) := by decide +kernel
theorem dX12_lastLetter_7 : decode cX12_lastLetter 7 = .ok (.ifnonnull 7, 3) := by decide +kernel
theorem dX12_lastLetter_10 : decode cX12_lastLetter 10 = .ok (.iconst 0, 1) := by decide +kernel
theorem dX12_lastLetter_11 : decode cX12_lastLetter 11 = .ok (.goto 7, 3) := by decide +kernel
theorem dX12_lastLetter_14 : decode cX12_lastLetter 14 = .ok (.aload_n 2, 1) := by decide +kernel
theorem dX12_lastLetter_15 : decode cX12_lastLetter 15 = .ok (.getfield 164, 3) := by decide +kernel
theorem dX12_lastLetter_18 : decode cX12_lastLetter 18 = .ok (.ireturn, 1) := by decide +kernel
theorem dX12_isVolume_0 : decode cX12_isVolume 0 = .ok (.iload_n 1, 1) := by decide +kernel
theorem dX12_isVolume_1 : decode cX12_isVolume 1 = .ok (.ifCond .lt 13, 3) := by decide +kernel
theorem dX12_isVolume_4 : decode cX12_isVolume 4 = .ok (.iload_n 1, 1) := by decide +kernel
theorem dX12_isVolume_5 : decode cX12_isVolume 5 = .ok (.bipush 6, 2) := by decide +kernel
theorem dX12_isVolume_7 : decode cX12_isVolume 7 = .ok (.if_icmp .ge 7, 3) := by decide +kernel
theorem dX12_isVolume_10 : decode cX12_isVolume 10 = .ok (.iconst 1, 1) := by decide +kernel
theorem dX12_isVolume_11 : decode cX12_isVolume 11 = .ok (.goto 4, 3) := by decide +kernel
theorem dX12_isVolume_14 : decode cX12_isVolume 14 = .ok (.iconst 0, 1) := by decide +kernel
theorem dX12_isVolume_15 : decode cX12_isVolume 15 = .ok (.ireturn, 1) := by decide +kernel
theorem dX12_volumeAt_0 : decode cX12_volumeAt 0 = .ok (.aload_n 0, 1) := by decide +kernel
theorem dX12_volumeAt_1 : decode cX12_volumeAt 1 = .ok (.iload_n 1, 1) := by decide +kernel
theorem dX12_volumeAt_2 : decode cX12_volumeAt 2 = .ok (.invokevirtual 126, 3) := by decide +kernel
theorem dX12_volumeAt_5 : decode cX12_volumeAt 5 = .ok (.ifCond .eq 12, 3) := by decide +kernel
theorem dX12_volumeAt_8 : decode cX12_volumeAt 8 = .ok (.aload_n 0, 1) := by decide +kernel
theorem dX12_volumeAt_9 : decode cX12_volumeAt 9 = .ok (.getfield 34, 3) := by decide +kernel
theorem dX12_volumeAt_12 : decode cX12_volumeAt 12 = .ok (.iload_n 1, 1) := by decide +kernel
theorem dX12_volumeAt_13 : decode cX12_volumeAt 13 = .ok (.aaload, 1) := by decide +kernel
theorem dX12_volumeAt_14 : decode cX12_volumeAt 14 = .ok (.goto 4, 3) := by decide +kernel
theorem dX12_volumeAt_17 : decode cX12_volumeAt 17 = .ok (.aconst_null, 1) := by decide +kernel
theorem dX12_volumeAt_18 : decode cX12_volumeAt 18 = .ok (.areturn, 1) := by decide +kernel
theorem dX12_isSet_0 : decode cX12_isSet 0 = .ok (.iload_n 1, 1) := by decide +kernel
theorem dX12_isSet_1 : decode cX12_isSet 1 = .ok (.ifCond .lt 18, 3) := by decide +kernel
theorem dX12_isSet_4 : decode cX12_isSet 4 = .ok (.aload_n 0, 1) := by decide +kernel
theorem dX12_isSet_5 : decode cX12_isSet 5 = .ok (.getfield 158, 3) := by decide +kernel
theorem dX12_isSet_8 : decode cX12_isSet 8 = .ok (.iload_n 1, 1) := by decide +kernel
theorem dX12_isSet_9 : decode cX12_isSet 9 = .ok (.ishr, 1) := by decide +kernel
theorem dX12_isSet_10 : decode cX12_isSet 10 = .ok (.iconst 1, 1) := by decide +kernel
theorem dX12_isSet_11 : decode cX12_isSet 11 = .ok (.iand, 1) := by decide +kernel
theorem dX12_isSet_12 : decode cX12_isSet 12 = .ok (.ifCond .eq 7, 3) := by decide +kernel
theorem dX12_isSet_15 : decode cX12_isSet 15 = .ok (.iconst 1, 1) := by decide +kernel
theorem dX12_isSet_16 : decode cX12_isSet 16 = .ok (.goto 4, 3) := by decide +kernel
theorem dX12_isSet_19 : decode cX12_isSet 19 = .ok (.iconst 0, 1) := by decide +kernel
theorem dX12_isSet_20 : decode cX12_isSet 20 = .ok (.ireturn, 1) := by decide +kernel
theorem dX12_setVolumeAt_0 : decode cX12_setVolumeAt 0 = .ok (.aload_n 0, 1) := by decide +kernel
theorem dX12_setVolumeAt_1 : decode cX12_setVolumeAt 1 = .ok (.iload_n 1, 1) := by decide +kernel
theorem dX12_setVolumeAt_2 : decode cX12_setVolumeAt 2 = .ok (.invokevirtual 166, 3) := by decide +kernel
theorem dX12_setVolumeAt_5 : decode cX12_setVolumeAt 5 = .ok (.astore_n 2, 1) := by decide +kernel
theorem dX12_setVolumeAt_6 : decode cX12_setVolumeAt 6 = .ok (.aload_n 2, 1) := by decide +kernel
theorem dX12_setVolumeAt_7 : decode cX12_setVolumeAt 7 = .ok (.ifnull 15, 3) := by decide +kernel
theorem dX12_setVolumeAt_10 : decode cX12_setVolumeAt 10 = .ok (.aload_n 2, 1) := by decide +kernel
theorem dX12_setVolumeAt_11 : decode cX12_setVolumeAt 11 = .ok (.getfield 170, 3) := by decide +kernel
theorem dX12_setVolumeAt_14 : decode cX12_setVolumeAt 14 = .ok (.iconst (-1), 1) := by decide +kernel
theorem dX12_setVolumeAt_15 : decode cX12_setVolumeAt 15 = .ok (.if_icmp .eq 7, 3) := by decide +kernel
theorem dX12_setVolumeAt_18 : decode cX12_setVolumeAt 18 = .ok (.aload_n 2, 1) := by decide +kernel
theorem dX12_setVolumeAt_19 : decode cX12_setVolumeAt 19 = .ok (.goto 4, 3) := by decide +kernel
theorem dX12_setVolumeAt_22 : decode cX12_setVolumeAt 22 = .ok (.aconst_null, 1) := by decide +kernel
theorem dX12_setVolumeAt_23 : decode cX12_setVolumeAt 23 = .ok (.areturn, 1) := by decide +kernel
theorem dX12_article_0 : decode cX12_article 0 = .ok (.iload 4, 2) := by decide +kernel
theorem dX12_article_2 : decode cX12_article 2 = .ok (.sipush 10000, 3) := by decide +kernel
theorem dX12_article_5 : decode cX12_article 5 = .ok (.idiv, 1) := by decide +kernel
theorem dX12_article_6 : decode cX12_article 6 = .ok (.istore 5, 2) := by decide +kernel
theorem dX12_article_8 : decode cX12_article 8 = .ok (.iload 4, 2) := by decide +kernel
theorem dX12_article_10 : decode cX12_article 10 = .ok (.sipush 1000, 3) := by decide +kernel
theorem dX12_article_13 : decode cX12_article 13 = .ok (.idiv, 1) := by decide +kernel
theorem dX12_article_14 : decode cX12_article 14 = .ok (.bipush 10, 2) := by decide +kernel
theorem dX12_article_16 : decode cX12_article 16 = .ok (.irem, 1) := by decide +kernel
theorem dX12_article_17 : decode cX12_article 17 = .ok (.istore 6, 2) := by decide +kernel
theorem dX12_article_19 : decode cX12_article 19 = .ok (.iload 4, 2) := by decide +kernel
theorem dX12_article_21 : decode cX12_article 21 = .ok (.sipush 1000, 3) := by decide +kernel
theorem dX12_article_24 : decode cX12_article 24 = .ok (.irem, 1) := by decide +kernel
theorem dX12_article_25 : decode cX12_article 25 = .ok (.istore 7, 2) := by decide +kernel
theorem dX12_article_27 : decode cX12_article 27 = .ok (.iload 4, 2) := by decide +kernel
theorem dX12_article_29 : decode cX12_article 29 = .ok (.ifCond .lt 30, 3) := by decide +kernel
theorem dX12_article_32 : decode cX12_article 32 = .ok (.iload 5, 2) := by decide +kernel
theorem dX12_article_34 : decode cX12_article 34 = .ok (.iconst 2, 1) := by decide +kernel
theorem dX12_article_35 : decode cX12_article 35 = .ok (.if_icmp .gt 24, 3) := by decide +kernel
theorem dX12_article_38 : decode cX12_article 38 = .ok (.iload 6, 2) := by decide +kernel
theorem dX12_article_40 : decode cX12_article 40 = .ok (.bipush 7, 2) := by decide +kernel
theorem dX12_article_42 : decode cX12_article 42 = .ok (.if_icmp .gt 17, 3) := by decide +kernel
theorem dX12_article_45 : decode cX12_article 45 = .ok (.iload 7, 2) := by decide +kernel
theorem dX12_article_47 : decode cX12_article 47 = .ok (.iconst 1, 1) := by decide +kernel
theorem dX12_article_48 : decode cX12_article 48 = .ok (.if_icmp .lt 11, 3) := by decide +kernel
theorem dX12_article_51 : decode cX12_article 51 = .ok (.iload 7, 2) := by decide +kernel
theorem dX12_article_53 : decode cX12_article 53 = .ok (.sipush 200, 3) := by decide +kernel
theorem dX12_article_56 : decode cX12_article 56 = .ok (.if_icmp .le 5, 3) := by decide +kernel
theorem dX12_article_59 : decode cX12_article 59 = .ok (.iconst (-1), 1) := by decide +kernel
theorem dX12_article_60 : decode cX12_article 60 = .ok (.ireturn, 1) := by decide +kernel
theorem dX12_article_61 : decode cX12_article 61 = .ok (.aload_n 0, 1) := by decide +kernel
theorem dX12_article_62 : decode cX12_article 62 = .ok (.iconst 0, 1) := by decide +kernel
theorem dX12_article_63 : decode cX12_article 63 = .ok (.iload_n 1, 1) := by decide +kernel
theorem dX12_article_64 : decode cX12_article 64 = .ok (.iload_n 2, 1) := by decide +kernel
theorem dX12_article_65 : decode cX12_article 65 = .ok (.iload_n 3, 1) := by decide +kernel
theorem dX12_article_66 : decode cX12_article 66 = .ok (.invokevirtual 173, 3) := by decide +kernel
theorem dX12_article_69 : decode cX12_article 69 = .ok (.astore 8, 2) := by decide +kernel
theorem dX12_article_71 : decode cX12_article 71 = .ok (.aload 8, 2) := by decide +kernel
theorem dX12_article_73 : decode cX12_article 73 = .ok (.ifnonnull 5, 3) := by decide +kernel
theorem dX12_article_76 : decode cX12_article 76 = .ok (.iconst (-1), 1) := by decide +kernel
theorem dX12_article_77 : decode cX12_article 77 = .ok (.ireturn, 1) := by decide +kernel
theorem dX12_article_78 : decode cX12_article 78 = .ok (.aload 8, 2) := by decide +kernel
theorem dX12_article_80 : decode cX12_article 80 = .ok (.iload 5, 2) := by decide +kernel
theorem dX12_article_82 : decode cX12_article 82 = .ok (.putfield 177, 3) := by decide +kernel
theorem dX12_article_85 : decode cX12_article 85 = .ok (.aload 8, 2) := by decide +kernel
theorem dX12_article_87 : decode cX12_article 87 = .ok (.iload 6, 2) := by decide +kernel
theorem dX12_article_89 : decode cX12_article 89 = .ok (.putfield 180, 3) := by decide +kernel
theorem dX12_article_92 : decode cX12_article 92 = .ok (.aload 8, 2) := by decide +kernel
theorem dX12_article_94 : decode cX12_article 94 = .ok (.iload 7, 2) := by decide +kernel
theorem dX12_article_96 : decode cX12_article 96 = .ok (.putfield 183, 3) := by decide +kernel
theorem dX12_article_99 : decode cX12_article 99 = .ok (.aload 8, 2) := by decide +kernel
theorem dX12_article_101 : decode cX12_article 101 = .ok (.getfield 186, 3) := by decide +kernel
theorem dX12_article_104 : decode cX12_article 104 = .ok (.ireturn, 1) := by decide +kernel
theorem dX12_pointer_0 : decode cX12_pointer 0 = .ok (.aload_n 0, 1) := by decide +kernel
theorem dX12_pointer_1 : decode cX12_pointer 1 = .ok (.iload 4, 2) := by decide +kernel
theorem dX12_pointer_3 : decode cX12_pointer 3 = .ok (.invokevirtual 189, 3) := by decide +kernel
theorem dX12_pointer_6 : decode cX12_pointer 6 = .ok (.ifnonnull 5, 3) := by decide +kernel
theorem dX12_pointer_9 : decode cX12_pointer 9 = .ok (.iconst (-1), 1) := by decide +kernel
theorem dX12_pointer_10 : decode cX12_pointer 10 = .ok (.ireturn, 1) := by decide +kernel
theorem dX12_pointer_11 : decode cX12_pointer 11 = .ok (.aload_n 0, 1) := by decide +kernel
theorem dX12_pointer_12 : decode cX12_pointer 12 = .ok (.iconst 1, 1) := by decide +kernel
theorem dX12_pointer_13 : decode cX12_pointer 13 = .ok (.iload_n 1, 1) := by decide +kernel
theorem dX12_pointer_14 : decode cX12_pointer 14 = .ok (.iload_n 2, 1) := by decide +kernel
theorem dX12_pointer_15 : decode cX12_pointer 15 = .ok (.iload_n 3, 1) := by decide +kernel
theorem dX12_pointer_16 : decode cX12_pointer 16 = .ok (.invokevirtual 173, 3) := by decide +kernel
theorem dX12_pointer_19 : decode cX12_pointer 19 = .ok (.astore 5, 2) := by decide +kernel
theorem dX12_pointer_21 : decode cX12_pointer 21 = .ok (.aload 5, 2) := by decide +kernel
theorem dX12_pointer_23 : decode cX12_pointer 23 = .ok (.ifnonnull 5, 3) := by decide +kernel
theorem dX12_pointer_26 : decode cX12_pointer 26 = .ok (.iconst (-1), 1) := by decide +kernel
theorem dX12_pointer_27 : decode cX12_pointer 27 = .ok (.ireturn, 1) := by decide +kernel
theorem dX12_pointer_28 : decode cX12_pointer 28 = .ok (.aload 5, 2) := by decide +kernel
theorem dX12_pointer_30 : decode cX12_pointer 30 = .ok (.iload 4, 2) := by decide +kernel
theorem dX12_pointer_32 : decode cX12_pointer 32 = .ok (.putfield 193, 3) := by decide +kernel
theorem dX12_pointer_35 : decode cX12_pointer 35 = .ok (.aload 5, 2) := by decide +kernel
theorem dX12_pointer_37 : decode cX12_pointer 37 = .ok (.getfield 186, 3) := by decide +kernel
theorem dX12_pointer_40 : decode cX12_pointer 40 = .ok (.ireturn, 1) := by decide +kernel
theorem dX12_plate_0 : decode cX12_plate 0 = .ok (.aload_n 0, 1) := by decide +kernel
theorem dX12_plate_1 : decode cX12_plate 1 = .ok (.iload 4, 2) := by decide +kernel
theorem dX12_plate_3 : decode cX12_plate 3 = .ok (.iload 5, 2) := by decide +kernel
theorem dX12_plate_5 : decode cX12_plate 5 = .ok (.invokevirtual 196, 3) := by decide +kernel
theorem dX12_plate_8 : decode cX12_plate 8 = .ok (.ifCond .ne 5, 3) := by decide +kernel
theorem dX12_plate_11 : decode cX12_plate 11 = .ok (.iconst (-1), 1) := by decide +kernel
theorem dX12_plate_12 : decode cX12_plate 12 = .ok (.ireturn, 1) := by decide +kernel
theorem dX12_plate_13 : decode cX12_plate 13 = .ok (.aload_n 0, 1) := by decide +kernel
theorem dX12_plate_14 : decode cX12_plate 14 = .ok (.iconst 2, 1) := by decide +kernel
theorem dX12_plate_15 : decode cX12_plate 15 = .ok (.iload_n 1, 1) := by decide +kernel
theorem dX12_plate_16 : decode cX12_plate 16 = .ok (.iload_n 2, 1) := by decide +kernel
theorem dX12_plate_17 : decode cX12_plate 17 = .ok (.iload_n 3, 1) := by decide +kernel
theorem dX12_plate_18 : decode cX12_plate 18 = .ok (.invokevirtual 173, 3) := by decide +kernel
theorem dX12_plate_21 : decode cX12_plate 21 = .ok (.astore 6, 2) := by decide +kernel
theorem dX12_plate_23 : decode cX12_plate 23 = .ok (.aload 6, 2) := by decide +kernel
theorem dX12_plate_25 : decode cX12_plate 25 = .ok (.ifnonnull 7, 3) := by decide +kernel
theorem dX12_plate_28 : decode cX12_plate 28 = .ok (.iconst (-1), 1) := by decide +kernel
theorem dX12_plate_29 : decode cX12_plate 29 = .ok (.goto 8, 3) := by decide +kernel
theorem dX12_plate_32 : decode cX12_plate 32 = .ok (.aload 6, 2) := by decide +kernel
theorem dX12_plate_34 : decode cX12_plate 34 = .ok (.getfield 186, 3) := by decide +kernel
theorem dX12_plate_37 : decode cX12_plate 37 = .ok (.ireturn, 1) := by decide +kernel
theorem dX12_areEntries_0 : decode cX12_areEntries 0 = .ok (.iload_n 1, 1) := by decide +kernel
theorem dX12_areEntries_1 : decode cX12_areEntries 1 = .ok (.ifCond .lt 13, 3) := by decide +kernel
theorem dX12_areEntries_4 : decode cX12_areEntries 4 = .ok (.iload_n 2, 1) := by decide +kernel
theorem dX12_areEntries_5 : decode cX12_areEntries 5 = .ok (.iconst 1, 1) := by decide +kernel
theorem dX12_areEntries_6 : decode cX12_areEntries 6 = .ok (.if_icmp .lt 8, 3) := by decide +kernel
theorem dX12_areEntries_9 : decode cX12_areEntries 9 = .ok (.iload_n 2, 1) := by decide +kernel
theorem dX12_areEntries_10 : decode cX12_areEntries 10 = .ok (.iconst 4, 1) := by decide +kernel
theorem dX12_areEntries_11 : decode cX12_areEntries 11 = .ok (.if_icmp .le 5, 3) := by decide +kernel
theorem dX12_areEntries_14 : decode cX12_areEntries 14 = .ok (.iconst 0, 1) := by decide +kernel
theorem dX12_areEntries_15 : decode cX12_areEntries 15 = .ok (.ireturn, 1) := by decide +kernel
theorem dX12_areEntries_16 : decode cX12_areEntries 16 = .ok (.lconst 0, 1) := by decide +kernel
theorem dX12_areEntries_17 : decode cX12_areEntries 17 = .ok (.lstore_n 3, 1) := by decide +kernel
theorem dX12_areEntries_18 : decode cX12_areEntries 18 = .ok (.iload_n 1, 1) := by decide +kernel
theorem dX12_areEntries_19 : decode cX12_areEntries 19 = .ok (.istore 5, 2) := by decide +kernel
theorem dX12_areEntries_21 : decode cX12_areEntries 21 = .ok (.iconst 0, 1) := by decide +kernel
theorem dX12_areEntries_22 : decode cX12_areEntries 22 = .ok (.istore 6, 2) := by decide +kernel
theorem dX12_areEntries_24 : decode cX12_areEntries 24 = .ok (.iload 6, 2) := by decide +kernel
theorem dX12_areEntries_26 : decode cX12_areEntries 26 = .ok (.iload_n 2, 1) := by decide +kernel
theorem dX12_areEntries_27 : decode cX12_areEntries 27 = .ok (.if_icmp .ge 52, 3) := by decide +kernel
theorem dX12_areEntries_30 : decode cX12_areEntries 30 = .ok (.iload 5, 2) := by decide +kernel
theorem dX12_areEntries_32 : decode cX12_areEntries 32 = .ok (.bipush 100, 2) := by decide +kernel
theorem dX12_areEntries_34 : decode cX12_areEntries 34 = .ok (.irem, 1) := by decide +kernel
theorem dX12_areEntries_35 : decode cX12_areEntries 35 = .ok (.istore 7, 2) := by decide +kernel
theorem dX12_areEntries_37 : decode cX12_areEntries 37 = .ok (.aload_n 0, 1) := by decide +kernel
theorem dX12_areEntries_38 : decode cX12_areEntries 38 = .ok (.iload 7, 2) := by decide +kernel
theorem dX12_areEntries_40 : decode cX12_areEntries 40 = .ok (.invokevirtual 189, 3) := by decide +kernel
theorem dX12_areEntries_43 : decode cX12_areEntries 43 = .ok (.ifnull 14, 3) := by decide +kernel
theorem dX12_areEntries_46 : decode cX12_areEntries 46 = .ok (.lload_n 3, 1) := by decide +kernel
theorem dX12_areEntries_47 : decode cX12_areEntries 47 = .ok (.iload 7, 2) := by decide +kernel
theorem dX12_areEntries_49 : decode cX12_areEntries 49 = .ok (.lshr, 1) := by decide +kernel
theorem dX12_areEntries_50 : decode cX12_areEntries 50 = .ok (.lconst 1, 1) := by decide +kernel
theorem dX12_areEntries_51 : decode cX12_areEntries 51 = .ok (.land, 1) := by decide +kernel
theorem dX12_areEntries_52 : decode cX12_areEntries 52 = .ok (.lconst 0, 1) := by decide +kernel
theorem dX12_areEntries_53 : decode cX12_areEntries 53 = .ok (.lcmp, 1) := by decide +kernel
theorem dX12_areEntries_54 : decode cX12_areEntries 54 = .ok (.ifCond .eq 5, 3) := by decide +kernel
theorem dX12_areEntries_57 : decode cX12_areEntries 57 = .ok (.iconst 0, 1) := by decide +kernel
theorem dX12_areEntries_58 : decode cX12_areEntries 58 = .ok (.ireturn, 1) := by decide +kernel
theorem dX12_areEntries_59 : decode cX12_areEntries 59 = .ok (.lload_n 3, 1) := by decide +kernel
theorem dX12_areEntries_60 : decode cX12_areEntries 60 = .ok (.lconst 1, 1) := by decide +kernel
theorem dX12_areEntries_61 : decode cX12_areEntries 61 = .ok (.iload 7, 2) := by decide +kernel
theorem dX12_areEntries_63 : decode cX12_areEntries 63 = .ok (.lshl, 1) := by decide +kernel
theorem dX12_areEntries_64 : decode cX12_areEntries 64 = .ok (.lor, 1) := by decide +kernel
theorem dX12_areEntries_65 : decode cX12_areEntries 65 = .ok (.lstore_n 3, 1) := by decide +kernel
theorem dX12_areEntries_66 : decode cX12_areEntries 66 = .ok (.iload 5, 2) := by decide +kernel
theorem dX12_areEntries_68 : decode cX12_areEntries 68 = .ok (.bipush 100, 2) := by decide +kernel
theorem dX12_areEntries_70 : decode cX12_areEntries 70 = .ok (.idiv, 1) := by decide +kernel
theorem dX12_areEntries_71 : decode cX12_areEntries 71 = .ok (.istore 5, 2) := by decide +kernel
theorem dX12_areEntries_73 : decode cX12_areEntries 73 = .ok (.iinc 6 1, 3) := by decide +kernel
theorem dX12_areEntries_76 : decode cX12_areEntries 76 = .ok (.goto (-52), 3) := by decide +kernel
theorem dX12_areEntries_79 : decode cX12_areEntries 79 = .ok (.iload 5, 2) := by decide +kernel
theorem dX12_areEntries_81 : decode cX12_areEntries 81 = .ok (.ifCond .ne 7, 3) := by decide +kernel
theorem dX12_areEntries_84 : decode cX12_areEntries 84 = .ok (.iconst 1, 1) := by decide +kernel
theorem dX12_areEntries_85 : decode cX12_areEntries 85 = .ok (.goto 4, 3) := by decide +kernel
theorem dX12_areEntries_88 : decode cX12_areEntries 88 = .ok (.iconst 0, 1) := by decide +kernel
theorem dX12_areEntries_89 : decode cX12_areEntries 89 = .ok (.ireturn, 1) := by decide +kernel
theorem dX12_newEntry_0 : decode cX12_newEntry 0 = .ok (.iload_n 2, 1) := by decide +kernel
theorem dX12_newEntry_1 : decode cX12_newEntry 1 = .ok (.iload_n 3, 1) := by decide +kernel
theorem dX12_newEntry_2 : decode cX12_newEntry 2 = .ok (.iload 4, 2) := by decide +kernel
theorem dX12_newEntry_4 : decode cX12_newEntry 4 = .ok (.invokestatic 200, 3) := by decide +kernel
theorem dX12_newEntry_7 : decode cX12_newEntry 7 = .ok (.istore 5, 2) := by decide +kernel
theorem dX12_newEntry_9 : decode cX12_newEntry 9 = .ok (.iload 5, 2) := by decide +kernel
theorem dX12_newEntry_11 : decode cX12_newEntry 11 = .ok (.iconst (-1), 1) := by decide +kernel
theorem dX12_newEntry_12 : decode cX12_newEntry 12 = .ok (.if_icmp .eq 12, 3) := by decide +kernel
theorem dX12_newEntry_15 : decode cX12_newEntry 15 = .ok (.aload_n 0, 1) := by decide +kernel
theorem dX12_newEntry_16 : decode cX12_newEntry 16 = .ok (.getfield 203, 3) := by decide +kernel
theorem dX12_newEntry_19 : decode cX12_newEntry 19 = .ok (.bipush 60, 2) := by decide +kernel
theorem dX12_newEntry_21 : decode cX12_newEntry 21 = .ok (.if_icmp .lt 5, 3) := by decide +kernel
theorem dX12_newEntry_24 : decode cX12_newEntry 24 = .ok (.aconst_null, 1) := by decide +kernel
theorem dX12_newEntry_25 : decode cX12_newEntry 25 = .ok (.areturn, 1) := by decide +kernel
theorem dX12_newEntry_26 : decode cX12_newEntry 26 = .ok (.new 41, 3) := by decide +kernel
theorem dX12_newEntry_29 : decode cX12_newEntry 29 = .ok (.dup, 1) := by decide +kernel
theorem dX12_newEntry_30 : decode cX12_newEntry 30 = .ok (.aload_n 0, 1) := by decide +kernel
theorem dX12_newEntry_31 : decode cX12_newEntry 31 = .ok (.getfield 203, 3) := by decide +kernel
theorem dX12_newEntry_34 : decode cX12_newEntry 34 = .ok (.iload_n 1, 1) := by decide +kernel
theorem dX12_newEntry_35 : decode cX12_newEntry 35 = .ok (.iload 5, 2) := by decide +kernel
theorem dX12_newEntry_37 : decode cX12_newEntry 37 = .ok (.invokespecial 206, 3) := by decide +kernel
theorem dX12_newEntry_40 : decode cX12_newEntry 40 = .ok (.astore 6, 2) := by decide +kernel
theorem dX12_newEntry_42 : decode cX12_newEntry 42 = .ok (.aload 6, 2) := by decide +kernel
theorem dX12_newEntry_44 : decode cX12_newEntry 44 = .ok (.iload_n 2, 1) := by decide +kernel
theorem dX12_newEntry_45 : decode cX12_newEntry 45 = .ok (.iload_n 3, 1) := by decide +kernel
theorem dX12_newEntry_46 : decode cX12_newEntry 46 = .ok (.iload 4, 2) := by decide +kernel
theorem dX12_newEntry_48 : decode cX12_newEntry 48 = .ok (.invokevirtual 209, 3) := by decide +kernel
theorem dX12_newEntry_51 : decode cX12_newEntry 51 = .ok (.aload_n 0, 1) := by decide +kernel
theorem dX12_newEntry_52 : decode cX12_newEntry 52 = .ok (.getfield 43, 3) := by decide +kernel
theorem dX12_newEntry_55 : decode cX12_newEntry 55 = .ok (.aload_n 0, 1) := by decide +kernel
theorem dX12_newEntry_56 : decode cX12_newEntry 56 = .ok (.getfield 203, 3) := by decide +kernel
theorem dX12_newEntry_59 : decode cX12_newEntry 59 = .ok (.aload 6, 2) := by decide +kernel
theorem dX12_newEntry_61 : decode cX12_newEntry 61 = .ok (.aastore, 1) := by decide +kernel
theorem dX12_newEntry_62 : decode cX12_newEntry 62 = .ok (.aload_n 0, 1) := by decide +kernel
theorem dX12_newEntry_63 : decode cX12_newEntry 63 = .ok (.dup, 1) := by decide +kernel
theorem dX12_newEntry_64 : decode cX12_newEntry 64 = .ok (.getfield 203, 3) := by decide +kernel
theorem dX12_newEntry_67 : decode cX12_newEntry 67 = .ok (.iconst 1, 1) := by decide +kernel
theorem dX12_newEntry_68 : decode cX12_newEntry 68 = .ok (.iadd, 1) := by decide +kernel
theorem dX12_newEntry_69 : decode cX12_newEntry 69 = .ok (.putfield 203, 3) := by decide +kernel
theorem dX12_newEntry_72 : decode cX12_newEntry 72 = .ok (.aload_n 0, 1) := by decide +kernel
theorem dX12_newEntry_73 : decode cX12_newEntry 73 = .ok (.getfield 28, 3) := by decide +kernel
theorem dX12_newEntry_76 : decode cX12_newEntry 76 = .ok (.iconst (-1), 1) := by decide +kernel
theorem dX12_newEntry_77 : decode cX12_newEntry 77 = .ok (.aload_n 0, 1) := by decide +kernel
theorem dX12_newEntry_78 : decode cX12_newEntry 78 = .ok (.getfield 133, 3) := by decide +kernel
theorem dX12_newEntry_81 : decode cX12_newEntry 81 = .ok (.invokevirtual 212, 3) := by decide +kernel
theorem dX12_newEntry_84 : decode cX12_newEntry 84 = .ok (.aload 6, 2) := by decide +kernel
theorem dX12_newEntry_86 : decode cX12_newEntry 86 = .ok (.aload_n 0, 1) := by decide +kernel
theorem dX12_newEntry_87 : decode cX12_newEntry 87 = .ok (.aload 6, 2) := by decide +kernel
theorem dX12_newEntry_89 : decode cX12_newEntry 89 = .ok (.invokevirtual 216, 3) := by decide +kernel
theorem dX12_newEntry_92 : decode cX12_newEntry 92 = .ok (.putfield 220, 3) := by decide +kernel
theorem dX12_newEntry_95 : decode cX12_newEntry 95 = .ok (.aload 6, 2) := by decide +kernel
theorem dX12_newEntry_97 : decode cX12_newEntry 97 = .ok (.areturn, 1) := by decide +kernel
theorem dX12_sortIntoVolumes_0 : decode cX12_sortIntoVolumes 0 = .ok (.aload_n 0, 1) := by decide +kernel
theorem dX12_sortIntoVolumes_1 : decode cX12_sortIntoVolumes 1 = .ok (.getfield 28, 3) := by decide +kernel
theorem dX12_sortIntoVolumes_4 : decode cX12_sortIntoVolumes 4 = .ok (.iconst (-1), 1) := by decide +kernel
theorem dX12_sortIntoVolumes_5 : decode cX12_sortIntoVolumes 5 = .ok (.aload_n 0, 1) := by decide +kernel
theorem dX12_sortIntoVolumes_6 : decode cX12_sortIntoVolumes 6 = .ok (.getfield 133, 3) := by decide +kernel
theorem dX12_sortIntoVolumes_9 : decode cX12_sortIntoVolumes 9 = .ok (.invokevirtual 212, 3) := by decide +kernel
theorem dX12_sortIntoVolumes_12 : decode cX12_sortIntoVolumes 12 = .ok (.iconst 0, 1) := by decide +kernel
theorem dX12_sortIntoVolumes_13 : decode cX12_sortIntoVolumes 13 = .ok (.istore_n 1, 1) := by decide +kernel
theorem dX12_sortIntoVolumes_14 : decode cX12_sortIntoVolumes 14 = .ok (.iload_n 1, 1) := by decide +kernel
theorem dX12_sortIntoVolumes_15 : decode cX12_sortIntoVolumes 15 = .ok (.aload_n 0, 1) := by decide +kernel
theorem dX12_sortIntoVolumes_16 : decode cX12_sortIntoVolumes 16 = .ok (.getfield 203, 3) := by decide +kernel
theorem dX12_sortIntoVolumes_19 : decode cX12_sortIntoVolumes 19 = .ok (.if_icmp .ge 28, 3) := by decide +kernel
theorem dX12_sortIntoVolumes_22 : decode cX12_sortIntoVolumes 22 = .ok (.aload_n 0, 1) := by decide +kernel
theorem dX12_sortIntoVolumes_23 : decode cX12_sortIntoVolumes 23 = .ok (.iload_n 1, 1) := by decide +kernel
theorem dX12_sortIntoVolumes_24 : decode cX12_sortIntoVolumes 24 = .ok (.invokevirtual 189, 3) := by decide +kernel
theorem dX12_sortIntoVolumes_27 : decode cX12_sortIntoVolumes 27 = .ok (.astore_n 2, 1) := by decide +kernel
theorem dX12_sortIntoVolumes_28 : decode cX12_sortIntoVolumes 28 = .ok (.aload_n 2, 1) := by decide +kernel
theorem dX12_sortIntoVolumes_29 : decode cX12_sortIntoVolumes 29 = .ok (.ifnull 12, 3) := by decide +kernel
theorem dX12_sortIntoVolumes_32 : decode cX12_sortIntoVolumes 32 = .ok (.aload_n 2, 1) := by decide +kernel
theorem dX12_sortIntoVolumes_33 : decode cX12_sortIntoVolumes 33 = .ok (.aload_n 0, 1) := by decide +kernel
theorem dX12_sortIntoVolumes_34 : decode cX12_sortIntoVolumes 34 = .ok (.aload_n 2, 1) := by decide +kernel
theorem dX12_sortIntoVolumes_35 : decode cX12_sortIntoVolumes 35 = .ok (.invokevirtual 216, 3) := by decide +kernel
theorem dX12_sortIntoVolumes_38 : decode cX12_sortIntoVolumes 38 = .ok (.putfield 220, 3) := by decide +kernel
theorem dX12_sortIntoVolumes_41 : decode cX12_sortIntoVolumes 41 = .ok (.iinc 1 1, 3) := by decide +kernel
theorem dX12_sortIntoVolumes_44 : decode cX12_sortIntoVolumes 44 = .ok (.goto (-30), 3) := by decide +kernel
theorem dX12_sortIntoVolumes_47 : decode cX12_sortIntoVolumes 47 = .ok (.return_, 1) := by decide +kernel
theorem dX12_volumeByKey_0 : decode cX12_volumeByKey 0 = .ok (.aload_n 0, 1) := by decide +kernel
theorem dX12_volumeByKey_1 : decode cX12_volumeByKey 1 = .ok (.getfield 28, 3) := by decide +kernel
theorem dX12_volumeByKey_4 : decode cX12_volumeByKey 4 = .ok (.aload_n 1, 1) := by decide +kernel
theorem dX12_volumeByKey_5 : decode cX12_volumeByKey 5 = .ok (.invokevirtual 223, 3) := by decide +kernel
theorem dX12_volumeByKey_8 : decode cX12_volumeByKey 8 = .ok (.aload_n 1, 1) := by decide +kernel
theorem dX12_volumeByKey_9 : decode cX12_volumeByKey 9 = .ok (.aload_n 1, 1) := by decide +kernel
theorem dX12_volumeByKey_10 : decode cX12_volumeByKey 10 = .ok (.getfield 227, 3) := by decide +kernel
theorem dX12_volumeByKey_13 : decode cX12_volumeByKey 13 = .ok (.invokevirtual 230, 3) := by decide +kernel
theorem dX12_volumeByKey_16 : decode cX12_volumeByKey 16 = .ok (.istore_n 2, 1) := by decide +kernel
theorem dX12_volumeByKey_17 : decode cX12_volumeByKey 17 = .ok (.iconst 5, 1) := by decide +kernel
theorem dX12_volumeByKey_18 : decode cX12_volumeByKey 18 = .ok (.istore_n 3, 1) := by decide +kernel
theorem dX12_volumeByKey_19 : decode cX12_volumeByKey 19 = .ok (.iload_n 2, 1) := by decide +kernel
theorem dX12_volumeByKey_20 : decode cX12_volumeByKey 20 = .ok (.invokestatic 233, 3) := by decide +kernel
theorem dX12_volumeByKey_23 : decode cX12_volumeByKey 23 = .ok (.ifCond .eq 19, 3) := by decide +kernel
theorem dX12_volumeByKey_26 : decode cX12_volumeByKey 26 = .ok (.aload_n 0, 1) := by decide +kernel
theorem dX12_volumeByKey_27 : decode cX12_volumeByKey 27 = .ok (.getfield 28, 3) := by decide +kernel
theorem dX12_volumeByKey_30 : decode cX12_volumeByKey 30 = .ok (.getfield 236, 3) := by decide +kernel
theorem dX12_volumeByKey_33 : decode cX12_volumeByKey 33 = .ok (.ifCond .eq 7, 3) := by decide +kernel
theorem dX12_volumeByKey_36 : decode cX12_volumeByKey 36 = .ok (.iconst 0, 1) := by decide +kernel
theorem dX12_volumeByKey_37 : decode cX12_volumeByKey 37 = .ok (.goto 4, 3) := by decide +kernel
theorem dX12_volumeByKey_40 : decode cX12_volumeByKey 40 = .ok (.iload_n 3, 1) := by decide +kernel
theorem dX12_volumeByKey_41 : decode cX12_volumeByKey 41 = .ok (.ireturn, 1) := by decide +kernel
theorem dX12_volumeByKey_42 : decode cX12_volumeByKey 42 = .ok (.iconst 0, 1) := by decide +kernel
theorem dX12_volumeByKey_43 : decode cX12_volumeByKey 43 = .ok (.istore 4, 2) := by decide +kernel
theorem dX12_volumeByKey_45 : decode cX12_volumeByKey 45 = .ok (.iload 4, 2) := by decide +kernel
theorem dX12_volumeByKey_47 : decode cX12_volumeByKey 47 = .ok (.iload_n 3, 1) := by decide +kernel
theorem dX12_volumeByKey_48 : decode cX12_volumeByKey 48 = .ok (.if_icmp .ge 25, 3) := by decide +kernel
theorem dX12_volumeByKey_51 : decode cX12_volumeByKey 51 = .ok (.iload_n 2, 1) := by decide +kernel
theorem dX12_volumeByKey_52 : decode cX12_volumeByKey 52 = .ok (.bipush 97, 2) := by decide +kernel
theorem dX12_volumeByKey_54 : decode cX12_volumeByKey 54 = .ok (.isub, 1) := by decide +kernel
theorem dX12_volumeByKey_55 : decode cX12_volumeByKey 55 = .ok (.aload_n 0, 1) := by decide +kernel
theorem dX12_volumeByKey_56 : decode cX12_volumeByKey 56 = .ok (.iload 4, 2) := by decide +kernel
theorem dX12_volumeByKey_58 : decode cX12_volumeByKey 58 = .ok (.invokevirtual 161, 3) := by decide +kernel
theorem dX12_volumeByKey_61 : decode cX12_volumeByKey 61 = .ok (.if_icmp .gt 6, 3) := by decide +kernel
theorem dX12_volumeByKey_64 : decode cX12_volumeByKey 64 = .ok (.iload 4, 2) := by decide +kernel
theorem dX12_volumeByKey_66 : decode cX12_volumeByKey 66 = .ok (.ireturn, 1) := by decide +kernel
theorem dX12_volumeByKey_67 : decode cX12_volumeByKey 67 = .ok (.iinc 4 1, 3) := by decide +kernel
theorem dX12_volumeByKey_70 : decode cX12_volumeByKey 70 = .ok (.goto (-25), 3) := by decide +kernel
theorem dX12_volumeByKey_73 : decode cX12_volumeByKey 73 = .ok (.iload_n 3, 1) := by decide +kernel
theorem dX12_volumeByKey_74 : decode cX12_volumeByKey 74 = .ok (.ireturn, 1) := by decide +kernel
theorem dX12_entryAt_0 : decode cX12_entryAt 0 = .ok (.iload_n 1, 1) := by decide +kernel
theorem dX12_entryAt_1 : decode cX12_entryAt 1 = .ok (.ifCond .lt 26, 3) := by decide +kernel
theorem dX12_entryAt_4 : decode cX12_entryAt 4 = .ok (.iload_n 1, 1) := by decide +kernel
theorem dX12_entryAt_5 : decode cX12_entryAt 5 = .ok (.aload_n 0, 1) := by decide +kernel
theorem dX12_entryAt_6 : decode cX12_entryAt 6 = .ok (.getfield 203, 3) := by decide +kernel
theorem dX12_entryAt_9 : decode cX12_entryAt 9 = .ok (.if_icmp .ge 18, 3) := by decide +kernel
theorem dX12_entryAt_12 : decode cX12_entryAt 12 = .ok (.iload_n 1, 1) := by decide +kernel
theorem dX12_entryAt_13 : decode cX12_entryAt 13 = .ok (.bipush 60, 2) := by decide +kernel
theorem dX12_entryAt_15 : decode cX12_entryAt 15 = .ok (.if_icmp .ge 12, 3) := by decide +kernel
theorem dX12_entryAt_18 : decode cX12_entryAt 18 = .ok (.aload_n 0, 1) := by decide +kernel
theorem dX12_entryAt_19 : decode cX12_entryAt 19 = .ok (.getfield 43, 3) := by decide +kernel
theorem dX12_entryAt_22 : decode cX12_entryAt 22 = .ok (.iload_n 1, 1) := by decide +kernel
theorem dX12_entryAt_23 : decode cX12_entryAt 23 = .ok (.aaload, 1) := by decide +kernel
theorem dX12_entryAt_24 : decode cX12_entryAt 24 = .ok (.goto 4, 3) := by decide +kernel
theorem dX12_entryAt_27 : decode cX12_entryAt 27 = .ok (.aconst_null, 1) := by decide +kernel
theorem dX12_entryAt_28 : decode cX12_entryAt 28 = .ok (.areturn, 1) := by decide +kernel
theorem dX12_entryOfKind_0 : decode cX12_entryOfKind 0 = .ok (.aload_n 0, 1) := by decide +kernel
theorem dX12_entryOfKind_1 : decode cX12_entryOfKind 1 = .ok (.iload_n 1, 1) := by decide +kernel
theorem dX12_entryOfKind_2 : decode cX12_entryOfKind 2 = .ok (.invokevirtual 189, 3) := by decide +kernel
theorem dX12_entryOfKind_5 : decode cX12_entryOfKind 5 = .ok (.astore_n 3, 1) := by decide +kernel
theorem dX12_entryOfKind_6 : decode cX12_entryOfKind 6 = .ok (.aload_n 3, 1) := by decide +kernel
theorem dX12_entryOfKind_7 : decode cX12_entryOfKind 7 = .ok (.ifnull 15, 3) := by decide +kernel
theorem dX12_entryOfKind_10 : decode cX12_entryOfKind 10 = .ok (.aload_n 3, 1) := by decide +kernel
theorem dX12_entryOfKind_11 : decode cX12_entryOfKind 11 = .ok (.getfield 240, 3) := by decide +kernel
theorem dX12_entryOfKind_14 : decode cX12_entryOfKind 14 = .ok (.iload_n 2, 1) := by decide +kernel
theorem dX12_entryOfKind_15 : decode cX12_entryOfKind 15 = .ok (.if_icmp .ne 7, 3) := by decide +kernel
theorem dX12_entryOfKind_18 : decode cX12_entryOfKind 18 = .ok (.aload_n 3, 1) := by decide +kernel
theorem dX12_entryOfKind_19 : decode cX12_entryOfKind 19 = .ok (.goto 4, 3) := by decide +kernel
theorem dX12_entryOfKind_22 : decode cX12_entryOfKind 22 = .ok (.aconst_null, 1) := by decide +kernel
theorem dX12_entryOfKind_23 : decode cX12_entryOfKind 23 = .ok (.areturn, 1) := by decide +kernel
theorem dX12_points_0 : decode cX12_points 0 = .ok (.aload_n 0, 1) := by decide +kernel
theorem dX12_points_1 : decode cX12_points 1 = .ok (.iload_n 1, 1) := by decide +kernel
theorem dX12_points_2 : decode cX12_points 2 = .ok (.iconst 1, 1) := by decide +kernel
theorem dX12_points_3 : decode cX12_points 3 = .ok (.invokevirtual 243, 3) := by decide +kernel
theorem dX12_points_6 : decode cX12_points 6 = .ok (.astore_n 3, 1) := by decide +kernel
theorem dX12_points_7 : decode cX12_points 7 = .ok (.aload_n 3, 1) := by decide +kernel
theorem dX12_points_8 : decode cX12_points 8 = .ok (.ifnull 19, 3) := by decide +kernel
theorem dX12_points_11 : decode cX12_points 11 = .ok (.aload_n 3, 1) := by decide +kernel
theorem dX12_points_12 : decode cX12_points 12 = .ok (.getfield 247, 3) := by decide +kernel
theorem dX12_points_15 : decode cX12_points 15 = .ok (.iconst (-1), 1) := by decide +kernel
theorem dX12_points_16 : decode cX12_points 16 = .ok (.if_icmp .ne 11, 3) := by decide +kernel
theorem dX12_points_19 : decode cX12_points 19 = .ok (.aload_n 0, 1) := by decide +kernel
theorem dX12_points_20 : decode cX12_points 20 = .ok (.iload_n 2, 1) := by decide +kernel
theorem dX12_points_21 : decode cX12_points 21 = .ok (.invokevirtual 189, 3) := by decide +kernel
theorem dX12_points_24 : decode cX12_points 24 = .ok (.ifnonnull 5, 3) := by decide +kernel
theorem dX12_points_27 : decode cX12_points 27 = .ok (.iconst 0, 1) := by decide +kernel
theorem dX12_points_28 : decode cX12_points 28 = .ok (.ireturn, 1) := by decide +kernel
theorem dX12_points_29 : decode cX12_points 29 = .ok (.aload_n 3, 1) := by decide +kernel
theorem dX12_points_30 : decode cX12_points 30 = .ok (.iload_n 2, 1) := by decide +kernel
theorem dX12_points_31 : decode cX12_points 31 = .ok (.putfield 193, 3) := by decide +kernel
theorem dX12_points_34 : decode cX12_points 34 = .ok (.iconst 1, 1) := by decide +kernel
theorem dX12_points_35 : decode cX12_points 35 = .ok (.ireturn, 1) := by decide +kernel
theorem dX12_strike_0 : decode cX12_strike 0 = .ok (.aload_n 0, 1) := by decide +kernel
theorem dX12_strike_1 : decode cX12_strike 1 = .ok (.iload_n 1, 1) := by decide +kernel
theorem dX12_strike_2 : decode cX12_strike 2 = .ok (.iconst 1, 1) := by decide +kernel
theorem dX12_strike_3 : decode cX12_strike 3 = .ok (.invokevirtual 250, 3) := by decide +kernel
theorem dX12_strike_6 : decode cX12_strike 6 = .ok (.ireturn, 1) := by decide +kernel
theorem dX12_later_0 : decode cX12_later 0 = .ok (.aload_n 0, 1) := by decide +kernel
theorem dX12_later_1 : decode cX12_later 1 = .ok (.iload_n 1, 1) := by decide +kernel
theorem dX12_later_2 : decode cX12_later 2 = .ok (.iconst 2, 1) := by decide +kernel
theorem dX12_later_3 : decode cX12_later 3 = .ok (.invokevirtual 250, 3) := by decide +kernel
theorem dX12_later_6 : decode cX12_later 6 = .ok (.ireturn, 1) := by decide +kernel
theorem dX12_sendAway_0 : decode cX12_sendAway 0 = .ok (.aload_n 0, 1) := by decide +kernel
theorem dX12_sendAway_1 : decode cX12_sendAway 1 = .ok (.iload_n 1, 1) := by decide +kernel
theorem dX12_sendAway_2 : decode cX12_sendAway 2 = .ok (.invokevirtual 189, 3) := by decide +kernel
theorem dX12_sendAway_5 : decode cX12_sendAway 5 = .ok (.astore_n 3, 1) := by decide +kernel
theorem dX12_sendAway_6 : decode cX12_sendAway 6 = .ok (.aload_n 3, 1) := by decide +kernel
theorem dX12_sendAway_7 : decode cX12_sendAway 7 = .ok (.ifnull 26, 3) := by decide +kernel
theorem dX12_sendAway_10 : decode cX12_sendAway 10 = .ok (.aload_n 3, 1) := by decide +kernel
theorem dX12_sendAway_11 : decode cX12_sendAway 11 = .ok (.getfield 253, 3) := by decide +kernel
theorem dX12_sendAway_14 : decode cX12_sendAway 14 = .ok (.ifCond .ne 19, 3) := by decide +kernel
theorem dX12_sendAway_17 : decode cX12_sendAway 17 = .ok (.aload_n 0, 1) := by decide +kernel
theorem dX12_sendAway_18 : decode cX12_sendAway 18 = .ok (.aload_n 3, 1) := by decide +kernel
theorem dX12_sendAway_19 : decode cX12_sendAway 19 = .ok (.invokevirtual 256, 3) := by decide +kernel
theorem dX12_sendAway_22 : decode cX12_sendAway 22 = .ok (.ifCond .ne 11, 3) := by decide +kernel
theorem dX12_sendAway_25 : decode cX12_sendAway 25 = .ok (.aload_n 3, 1) := by decide +kernel
theorem dX12_sendAway_26 : decode cX12_sendAway 26 = .ok (.getfield 247, 3) := by decide +kernel
theorem dX12_sendAway_29 : decode cX12_sendAway 29 = .ok (.iconst (-1), 1) := by decide +kernel
theorem dX12_sendAway_30 : decode cX12_sendAway 30 = .ok (.if_icmp .eq 5, 3) := by decide +kernel
theorem dX12_sendAway_33 : decode cX12_sendAway 33 = .ok (.iconst 0, 1) := by decide +kernel
theorem dX12_sendAway_34 : decode cX12_sendAway 34 = .ok (.ireturn, 1) := by decide +kernel
theorem dX12_sendAway_35 : decode cX12_sendAway 35 = .ok (.aload_n 3, 1) := by decide +kernel
theorem dX12_sendAway_36 : decode cX12_sendAway 36 = .ok (.iload_n 2, 1) := by decide +kernel
theorem dX12_sendAway_37 : decode cX12_sendAway 37 = .ok (.putfield 253, 3) := by decide +kernel
theorem dX12_sendAway_40 : decode cX12_sendAway 40 = .ok (.iconst 1, 1) := by decide +kernel
theorem dX12_sendAway_41 : decode cX12_sendAway 41 = .ok (.ireturn, 1) := by decide +kernel
theorem dX12_isLater_0 : decode cX12_isLater 0 = .ok (.aload_n 1, 1) := by decide +kernel
theorem dX12_isLater_1 : decode cX12_isLater 1 = .ok (.getfield 247, 3) := by decide +kernel
theorem dX12_isLater_4 : decode cX12_isLater 4 = .ok (.iconst (-1), 1) := by decide +kernel
theorem dX12_isLater_5 : decode cX12_isLater 5 = .ok (.if_icmp .ne 26, 3) := by decide +kernel
theorem dX12_isLater_8 : decode cX12_isLater 8 = .ok (.aload_n 1, 1) := by decide +kernel
theorem dX12_isLater_9 : decode cX12_isLater 9 = .ok (.getfield 253, 3) := by decide +kernel
theorem dX12_isLater_12 : decode cX12_isLater 12 = .ok (.iconst 2, 1) := by decide +kernel
theorem dX12_isLater_13 : decode cX12_isLater 13 = .ok (.if_icmp .eq 14, 3) := by decide +kernel
theorem dX12_isLater_16 : decode cX12_isLater 16 = .ok (.aload_n 0, 1) := by decide +kernel
theorem dX12_isLater_17 : decode cX12_isLater 17 = .ok (.aload_n 1, 1) := by decide +kernel
theorem dX12_isLater_18 : decode cX12_isLater 18 = .ok (.getfield 220, 3) := by decide +kernel
theorem dX12_isLater_21 : decode cX12_isLater 21 = .ok (.invokevirtual 130, 3) := by decide +kernel
theorem dX12_isLater_24 : decode cX12_isLater 24 = .ok (.ifCond .eq 7, 3) := by decide +kernel
theorem dX12_isLater_27 : decode cX12_isLater 27 = .ok (.iconst 1, 1) := by decide +kernel
theorem dX12_isLater_28 : decode cX12_isLater 28 = .ok (.goto 4, 3) := by decide +kernel
theorem dX12_isLater_31 : decode cX12_isLater 31 = .ok (.iconst 0, 1) := by decide +kernel
theorem dX12_isLater_32 : decode cX12_isLater 32 = .ok (.ireturn, 1) := by decide +kernel
theorem dX12_isStruck_0 : decode cX12_isStruck 0 = .ok (.aload_n 1, 1) := by decide +kernel
theorem dX12_isStruck_1 : decode cX12_isStruck 1 = .ok (.getfield 253, 3) := by decide +kernel
theorem dX12_isStruck_4 : decode cX12_isStruck 4 = .ok (.iconst 1, 1) := by decide +kernel
theorem dX12_isStruck_5 : decode cX12_isStruck 5 = .ok (.if_icmp .ne 7, 3) := by decide +kernel
theorem dX12_isStruck_8 : decode cX12_isStruck 8 = .ok (.iconst 1, 1) := by decide +kernel
theorem dX12_isStruck_9 : decode cX12_isStruck 9 = .ok (.goto 4, 3) := by decide +kernel
theorem dX12_isStruck_12 : decode cX12_isStruck 12 = .ok (.iconst 0, 1) := by decide +kernel
theorem dX12_isStruck_13 : decode cX12_isStruck 13 = .ok (.ireturn, 1) := by decide +kernel
theorem dX12_standing_0 : decode cX12_standing 0 = .ok (.aload_n 1, 1) := by decide +kernel
theorem dX12_standing_1 : decode cX12_standing 1 = .ok (.getfield 247, 3) := by decide +kernel
theorem dX12_standing_4 : decode cX12_standing 4 = .ok (.iconst (-1), 1) := by decide +kernel
theorem dX12_standing_5 : decode cX12_standing 5 = .ok (.if_icmp .eq 8, 3) := by decide +kernel
theorem dX12_standing_8 : decode cX12_standing 8 = .ok (.aload_n 1, 1) := by decide +kernel
theorem dX12_standing_9 : decode cX12_standing 9 = .ok (.getfield 247, 3) := by decide +kernel
theorem dX12_standing_12 : decode cX12_standing 12 = .ok (.ireturn, 1) := by decide +kernel
theorem dX12_standing_13 : decode cX12_standing 13 = .ok (.aload_n 0, 1) := by decide +kernel
theorem dX12_standing_14 : decode cX12_standing 14 = .ok (.aload_n 1, 1) := by decide +kernel
theorem dX12_standing_15 : decode cX12_standing 15 = .ok (.invokevirtual 256, 3) := by decide +kernel
theorem dX12_standing_18 : decode cX12_standing 18 = .ok (.ifCond .eq 8, 3) := by decide +kernel
theorem dX12_standing_21 : decode cX12_standing 21 = .ok (.bipush 6, 2) := by decide +kernel
theorem dX12_standing_23 : decode cX12_standing 23 = .ok (.goto 7, 3) := by decide +kernel
theorem dX12_standing_26 : decode cX12_standing 26 = .ok (.aload_n 1, 1) := by decide +kernel
theorem dX12_standing_27 : decode cX12_standing 27 = .ok (.getfield 220, 3) := by decide +kernel
theorem dX12_standing_30 : decode cX12_standing 30 = .ok (.ireturn, 1) := by decide +kernel
theorem dX12_volume_0 : decode cX12_volume 0 = .ok (.aload_n 0, 1) := by decide +kernel
theorem dX12_volume_1 : decode cX12_volume 1 = .ok (.iload_n 1, 1) := by decide +kernel
theorem dX12_volume_2 : decode cX12_volume 2 = .ok (.invokevirtual 189, 3) := by decide +kernel
theorem dX12_volume_5 : decode cX12_volume 5 = .ok (.astore_n 2, 1) := by decide +kernel
theorem dX12_volume_6 : decode cX12_volume 6 = .ok (.aload_n 2, 1) := by decide +kernel
theorem dX12_volume_7 : decode cX12_volume 7 = .ok (.ifnonnull 7, 3) := by decide +kernel
theorem dX12_volume_10 : decode cX12_volume 10 = .ok (.iconst (-1), 1) := by decide +kernel
theorem dX12_volume_11 : decode cX12_volume 11 = .ok (.goto 8, 3) := by decide +kernel
theorem dX12_volume_14 : decode cX12_volume 14 = .ok (.aload_n 0, 1) := by decide +kernel
theorem dX12_volume_15 : decode cX12_volume 15 = .ok (.aload_n 2, 1) := by decide +kernel
theorem dX12_volume_16 : decode cX12_volume 16 = .ok (.invokevirtual 260, 3) := by decide +kernel
theorem dX12_volume_19 : decode cX12_volume 19 = .ok (.ireturn, 1) := by decide +kernel
theorem dX12_at_0 : decode cX12_at 0 = .ok (.aload_n 0, 1) := by decide +kernel
theorem dX12_at_1 : decode cX12_at 1 = .ok (.iload_n 1, 1) := by decide +kernel
theorem dX12_at_2 : decode cX12_at 2 = .ok (.invokevirtual 166, 3) := by decide +kernel
theorem dX12_at_5 : decode cX12_at 5 = .ok (.astore_n 3, 1) := by decide +kernel
theorem dX12_at_6 : decode cX12_at 6 = .ok (.aload_n 3, 1) := by decide +kernel
theorem dX12_at_7 : decode cX12_at 7 = .ok (.ifnull 7, 3) := by decide +kernel
theorem dX12_at_10 : decode cX12_at 10 = .ok (.iload_n 2, 1) := by decide +kernel
theorem dX12_at_11 : decode cX12_at 11 = .ok (.ifCond .ge 5, 3) := by decide +kernel
theorem dX12_at_14 : decode cX12_at 14 = .ok (.iconst (-1), 1) := by decide +kernel
theorem dX12_at_15 : decode cX12_at 15 = .ok (.ireturn, 1) := by decide +kernel
theorem dX12_at_16 : decode cX12_at 16 = .ok (.aload_n 3, 1) := by decide +kernel
theorem dX12_at_17 : decode cX12_at 17 = .ok (.getfield 170, 3) := by decide +kernel
theorem dX12_at_20 : decode cX12_at 20 = .ok (.iconst (-1), 1) := by decide +kernel
theorem dX12_at_21 : decode cX12_at 21 = .ok (.if_icmp .eq 23, 3) := by decide +kernel
theorem dX12_at_24 : decode cX12_at 24 = .ok (.iload_n 2, 1) := by decide +kernel
theorem dX12_at_25 : decode cX12_at 25 = .ok (.aload_n 3, 1) := by decide +kernel
theorem dX12_at_26 : decode cX12_at 26 = .ok (.getfield 263, 3) := by decide +kernel
theorem dX12_at_29 : decode cX12_at 29 = .ok (.arraylength, 1) := by decide +kernel
theorem dX12_at_30 : decode cX12_at 30 = .ok (.if_icmp .ge 12, 3) := by decide +kernel
theorem dX12_at_33 : decode cX12_at 33 = .ok (.aload_n 3, 1) := by decide +kernel
theorem dX12_at_34 : decode cX12_at 34 = .ok (.getfield 263, 3) := by decide +kernel
theorem dX12_at_37 : decode cX12_at 37 = .ok (.iload_n 2, 1) := by decide +kernel
theorem dX12_at_38 : decode cX12_at 38 = .ok (.iaload, 1) := by decide +kernel
theorem dX12_at_39 : decode cX12_at 39 = .ok (.goto 4, 3) := by decide +kernel
theorem dX12_at_42 : decode cX12_at 42 = .ok (.iconst (-1), 1) := by decide +kernel
theorem dX12_at_43 : decode cX12_at 43 = .ok (.ireturn, 1) := by decide +kernel
theorem dX12_at_44 : decode cX12_at 44 = .ok (.aload_n 0, 1) := by decide +kernel
theorem dX12_at_45 : decode cX12_at 45 = .ok (.iload_n 1, 1) := by decide +kernel
theorem dX12_at_46 : decode cX12_at 46 = .ok (.invokevirtual 265, 3) := by decide +kernel
theorem dX12_at_49 : decode cX12_at 49 = .ok (.iload_n 2, 1) := by decide +kernel
theorem dX12_at_50 : decode cX12_at 50 = .ok (.aload_n 0, 1) := by decide +kernel
theorem dX12_at_51 : decode cX12_at 51 = .ok (.getfield 268, 3) := by decide +kernel
theorem dX12_at_54 : decode cX12_at 54 = .ok (.if_icmp .ge 21, 3) := by decide +kernel
theorem dX12_at_57 : decode cX12_at 57 = .ok (.iload_n 2, 1) := by decide +kernel
theorem dX12_at_58 : decode cX12_at 58 = .ok (.aload_n 0, 1) := by decide +kernel
theorem dX12_at_59 : decode cX12_at 59 = .ok (.getfield 47, 3) := by decide +kernel
theorem dX12_at_62 : decode cX12_at 62 = .ok (.arraylength, 1) := by decide +kernel
theorem dX12_at_63 : decode cX12_at 63 = .ok (.if_icmp .ge 12, 3) := by decide +kernel
theorem dX12_at_66 : decode cX12_at 66 = .ok (.aload_n 0, 1) := by decide +kernel
theorem dX12_at_67 : decode cX12_at 67 = .ok (.getfield 47, 3) := by decide +kernel
theorem dX12_at_70 : decode cX12_at 70 = .ok (.iload_n 2, 1) := by decide +kernel
theorem dX12_at_71 : decode cX12_at 71 = .ok (.iaload, 1) := by decide +kernel
theorem dX12_at_72 : decode cX12_at 72 = .ok (.goto 4, 3) := by decide +kernel
theorem dX12_at_75 : decode cX12_at 75 = .ok (.iconst (-1), 1) := by decide +kernel
theorem dX12_at_76 : decode cX12_at 76 = .ok (.ireturn, 1) := by decide +kernel
theorem dX12_arrange_0 : decode cX12_arrange 0 = .ok (.aload_n 0, 1) := by decide +kernel
theorem dX12_arrange_1 : decode cX12_arrange 1 = .ok (.iconst 0, 1) := by decide +kernel
theorem dX12_arrange_2 : decode cX12_arrange 2 = .ok (.putfield 268, 3) := by decide +kernel
theorem dX12_arrange_5 : decode cX12_arrange 5 = .ok (.aload_n 0, 1) := by decide +kernel
theorem dX12_arrange_6 : decode cX12_arrange 6 = .ok (.getfield 28, 3) := by decide +kernel
theorem dX12_arrange_9 : decode cX12_arrange 9 = .ok (.iload_n 1, 1) := by decide +kernel
theorem dX12_arrange_10 : decode cX12_arrange 10 = .ok (.aload_n 0, 1) := by decide +kernel
theorem dX12_arrange_11 : decode cX12_arrange 11 = .ok (.getfield 133, 3) := by decide +kernel
theorem dX12_arrange_14 : decode cX12_arrange 14 = .ok (.invokevirtual 212, 3) := by decide +kernel
theorem dX12_arrange_17 : decode cX12_arrange 17 = .ok (.iconst 0, 1) := by decide +kernel
theorem dX12_arrange_18 : decode cX12_arrange 18 = .ok (.istore_n 2, 1) := by decide +kernel
theorem dX12_arrange_19 : decode cX12_arrange 19 = .ok (.iload_n 2, 1) := by decide +kernel
theorem dX12_arrange_20 : decode cX12_arrange 20 = .ok (.aload_n 0, 1) := by decide +kernel
theorem dX12_arrange_21 : decode cX12_arrange 21 = .ok (.getfield 203, 3) := by decide +kernel
theorem dX12_arrange_24 : decode cX12_arrange 24 = .ok (.if_icmp .ge 49, 3) := by decide +kernel
theorem dX12_arrange_27 : decode cX12_arrange 27 = .ok (.aload_n 0, 1) := by decide +kernel
theorem dX12_arrange_28 : decode cX12_arrange 28 = .ok (.iload_n 2, 1) := by decide +kernel
theorem dX12_arrange_29 : decode cX12_arrange 29 = .ok (.invokevirtual 189, 3) := by decide +kernel
theorem dX12_arrange_32 : decode cX12_arrange 32 = .ok (.astore_n 3, 1) := by decide +kernel
theorem dX12_arrange_33 : decode cX12_arrange 33 = .ok (.aload_n 3, 1) := by decide +kernel
theorem dX12_arrange_34 : decode cX12_arrange 34 = .ok (.ifnull 33, 3) := by decide +kernel
theorem dX12_arrange_37 : decode cX12_arrange 37 = .ok (.aload_n 3, 1) := by decide +kernel
theorem dX12_arrange_38 : decode cX12_arrange 38 = .ok (.getfield 247, 3) := by decide +kernel
theorem dX12_arrange_41 : decode cX12_arrange 41 = .ok (.iconst (-1), 1) := by decide +kernel
theorem dX12_arrange_42 : decode cX12_arrange 42 = .ok (.if_icmp .ne 25, 3) := by decide +kernel
theorem dX12_arrange_45 : decode cX12_arrange 45 = .ok (.aload_n 0, 1) := by decide +kernel
theorem dX12_arrange_46 : decode cX12_arrange 46 = .ok (.aload_n 3, 1) := by decide +kernel
theorem dX12_arrange_47 : decode cX12_arrange 47 = .ok (.invokevirtual 260, 3) := by decide +kernel
theorem dX12_arrange_50 : decode cX12_arrange 50 = .ok (.iload_n 1, 1) := by decide +kernel
theorem dX12_arrange_51 : decode cX12_arrange 51 = .ok (.if_icmp .ne 16, 3) := by decide +kernel
theorem dX12_arrange_54 : decode cX12_arrange 54 = .ok (.aload_n 0, 1) := by decide +kernel
theorem dX12_arrange_55 : decode cX12_arrange 55 = .ok (.getfield 28, 3) := by decide +kernel
theorem dX12_arrange_58 : decode cX12_arrange 58 = .ok (.aload_n 3, 1) := by decide +kernel
theorem dX12_arrange_59 : decode cX12_arrange 59 = .ok (.invokevirtual 223, 3) := by decide +kernel
theorem dX12_arrange_62 : decode cX12_arrange 62 = .ok (.aload_n 0, 1) := by decide +kernel
theorem dX12_arrange_63 : decode cX12_arrange 63 = .ok (.aload_n 3, 1) := by decide +kernel
theorem dX12_arrange_64 : decode cX12_arrange 64 = .ok (.invokevirtual 271, 3) := by decide +kernel
theorem dX12_arrange_67 : decode cX12_arrange 67 = .ok (.iinc 2 1, 3) := by decide +kernel
theorem dX12_arrange_70 : decode cX12_arrange 70 = .ok (.goto (-51), 3) := by decide +kernel
theorem dX12_arrange_73 : decode cX12_arrange 73 = .ok (.return_, 1) := by decide +kernel
theorem dX12_insertIntoRow_0 : decode cX12_insertIntoRow 0 = .ok (.aload_n 0, 1) := by decide +kernel
theorem dX12_insertIntoRow_1 : decode cX12_insertIntoRow 1 = .ok (.getfield 268, 3) := by decide +kernel
theorem dX12_insertIntoRow_4 : decode cX12_insertIntoRow 4 = .ok (.ifCond .lt 15, 3) := by decide +kernel
theorem dX12_insertIntoRow_7 : decode cX12_insertIntoRow 7 = .ok (.aload_n 0, 1) := by decide +kernel
theorem dX12_insertIntoRow_8 : decode cX12_insertIntoRow 8 = .ok (.getfield 268, 3) := by decide +kernel
theorem dX12_insertIntoRow_11 : decode cX12_insertIntoRow 11 = .ok (.aload_n 0, 1) := by decide +kernel
theorem dX12_insertIntoRow_12 : decode cX12_insertIntoRow 12 = .ok (.getfield 47, 3) := by decide +kernel
theorem dX12_insertIntoRow_15 : decode cX12_insertIntoRow 15 = .ok (.arraylength, 1) := by decide +kernel
theorem dX12_insertIntoRow_16 : decode cX12_insertIntoRow 16 = .ok (.if_icmp .lt 4, 3) := by decide +kernel
theorem dX12_insertIntoRow_19 : decode cX12_insertIntoRow 19 = .ok (.return_, 1) := by decide +kernel
theorem dX12_insertIntoRow_20 : decode cX12_insertIntoRow 20 = .ok (.iconst 0, 1) := by decide +kernel
theorem dX12_insertIntoRow_21 : decode cX12_insertIntoRow 21 = .ok (.istore_n 2, 1) := by decide +kernel
theorem dX12_insertIntoRow_22 : decode cX12_insertIntoRow 22 = .ok (.aload_n 0, 1) := by decide +kernel
theorem dX12_insertIntoRow_23 : decode cX12_insertIntoRow 23 = .ok (.getfield 268, 3) := by decide +kernel
theorem dX12_insertIntoRow_26 : decode cX12_insertIntoRow 26 = .ok (.istore_n 3, 1) := by decide +kernel
theorem dX12_insertIntoRow_27 : decode cX12_insertIntoRow 27 = .ok (.iconst 0, 1) := by decide +kernel
theorem dX12_insertIntoRow_28 : decode cX12_insertIntoRow 28 = .ok (.istore 4, 2) := by decide +kernel
theorem dX12_insertIntoRow_30 : decode cX12_insertIntoRow 30 = .ok (.iload 4, 2) := by decide +kernel
theorem dX12_insertIntoRow_32 : decode cX12_insertIntoRow 32 = .ok (.bipush 60, 2) := by decide +kernel
theorem dX12_insertIntoRow_34 : decode cX12_insertIntoRow 34 = .ok (.if_icmp .ge 63, 3) := by decide +kernel
theorem dX12_insertIntoRow_37 : decode cX12_insertIntoRow 37 = .ok (.iload_n 2, 1) := by decide +kernel
theorem dX12_insertIntoRow_38 : decode cX12_insertIntoRow 38 = .ok (.iload_n 3, 1) := by decide +kernel
theorem dX12_insertIntoRow_39 : decode cX12_insertIntoRow 39 = .ok (.if_icmp .ge 58, 3) := by decide +kernel
theorem dX12_insertIntoRow_42 : decode cX12_insertIntoRow 42 = .ok (.iload_n 2, 1) := by decide +kernel
theorem dX12_insertIntoRow_43 : decode cX12_insertIntoRow 43 = .ok (.iload_n 3, 1) := by decide +kernel
theorem dX12_insertIntoRow_44 : decode cX12_insertIntoRow 44 = .ok (.iadd, 1) := by decide +kernel
theorem dX12_insertIntoRow_45 : decode cX12_insertIntoRow 45 = .ok (.iconst 1, 1) := by decide +kernel
theorem dX12_insertIntoRow_46 : decode cX12_insertIntoRow 46 = .ok (.iushr, 1) := by decide +kernel
theorem dX12_insertIntoRow_47 : decode cX12_insertIntoRow 47 = .ok (.istore 5, 2) := by decide +kernel
theorem dX12_insertIntoRow_49 : decode cX12_insertIntoRow 49 = .ok (.aload_n 0, 1) := by decide +kernel
theorem dX12_insertIntoRow_50 : decode cX12_insertIntoRow 50 = .ok (.aload_n 0, 1) := by decide +kernel
theorem dX12_insertIntoRow_51 : decode cX12_insertIntoRow 51 = .ok (.getfield 47, 3) := by decide +kernel
theorem dX12_insertIntoRow_54 : decode cX12_insertIntoRow 54 = .ok (.iload 5, 2) := by decide +kernel
theorem dX12_insertIntoRow_56 : decode cX12_insertIntoRow 56 = .ok (.iaload, 1) := by decide +kernel
theorem dX12_insertIntoRow_57 : decode cX12_insertIntoRow 57 = .ok (.invokevirtual 189, 3) := by decide +kernel
theorem dX12_insertIntoRow_60 : decode cX12_insertIntoRow 60 = .ok (.astore 6, 2) := by decide +kernel
theorem dX12_insertIntoRow_62 : decode cX12_insertIntoRow 62 = .ok (.aload 6, 2) := by decide +kernel
theorem dX12_insertIntoRow_64 : decode cX12_insertIntoRow 64 = .ok (.ifnull 22, 3) := by decide +kernel
theorem dX12_insertIntoRow_67 : decode cX12_insertIntoRow 67 = .ok (.aload_n 0, 1) := by decide +kernel
theorem dX12_insertIntoRow_68 : decode cX12_insertIntoRow 68 = .ok (.getfield 28, 3) := by decide +kernel
theorem dX12_insertIntoRow_71 : decode cX12_insertIntoRow 71 = .ok (.aload_n 1, 1) := by decide +kernel
theorem dX12_insertIntoRow_72 : decode cX12_insertIntoRow 72 = .ok (.aload 6, 2) := by decide +kernel
theorem dX12_insertIntoRow_74 : decode cX12_insertIntoRow 74 = .ok (.invokevirtual 274, 3) := by decide +kernel
theorem dX12_insertIntoRow_77 : decode cX12_insertIntoRow 77 = .ok (.ifCond .eq 9, 3) := by decide +kernel
theorem dX12_insertIntoRow_80 : decode cX12_insertIntoRow 80 = .ok (.iload 5, 2) := by decide +kernel
theorem dX12_insertIntoRow_82 : decode cX12_insertIntoRow 82 = .ok (.istore_n 3, 1) := by decide +kernel
theorem dX12_insertIntoRow_83 : decode cX12_insertIntoRow 83 = .ok (.goto 8, 3) := by decide +kernel
theorem dX12_insertIntoRow_86 : decode cX12_insertIntoRow 86 = .ok (.iload 5, 2) := by decide +kernel
theorem dX12_insertIntoRow_88 : decode cX12_insertIntoRow 88 = .ok (.iconst 1, 1) := by decide +kernel
theorem dX12_insertIntoRow_89 : decode cX12_insertIntoRow 89 = .ok (.iadd, 1) := by decide +kernel
theorem dX12_insertIntoRow_90 : decode cX12_insertIntoRow 90 = .ok (.istore_n 2, 1) := by decide +kernel
theorem dX12_insertIntoRow_91 : decode cX12_insertIntoRow 91 = .ok (.iinc 4 1, 3) := by decide +kernel
theorem dX12_insertIntoRow_94 : decode cX12_insertIntoRow 94 = .ok (.goto (-64), 3) := by decide +kernel
theorem dX12_insertIntoRow_97 : decode cX12_insertIntoRow 97 = .ok (.aload_n 0, 1) := by decide +kernel
theorem dX12_insertIntoRow_98 : decode cX12_insertIntoRow 98 = .ok (.getfield 47, 3) := by decide +kernel
theorem dX12_insertIntoRow_101 : decode cX12_insertIntoRow 101 = .ok (.iload_n 2, 1) := by decide +kernel
theorem dX12_insertIntoRow_102 : decode cX12_insertIntoRow 102 = .ok (.aload_n 0, 1) := by decide +kernel
theorem dX12_insertIntoRow_103 : decode cX12_insertIntoRow 103 = .ok (.getfield 47, 3) := by decide +kernel
theorem dX12_insertIntoRow_106 : decode cX12_insertIntoRow 106 = .ok (.iload_n 2, 1) := by decide +kernel
theorem dX12_insertIntoRow_107 : decode cX12_insertIntoRow 107 = .ok (.iconst 1, 1) := by decide +kernel
theorem dX12_insertIntoRow_108 : decode cX12_insertIntoRow 108 = .ok (.iadd, 1) := by decide +kernel
theorem dX12_insertIntoRow_109 : decode cX12_insertIntoRow 109 = .ok (.aload_n 0, 1) := by decide +kernel
theorem dX12_insertIntoRow_110 : decode cX12_insertIntoRow 110 = .ok (.getfield 268, 3) := by decide +kernel
theorem dX12_insertIntoRow_113 : decode cX12_insertIntoRow 113 = .ok (.iload_n 2, 1) := by decide +kernel
theorem dX12_insertIntoRow_114 : decode cX12_insertIntoRow 114 = .ok (.isub, 1) := by decide +kernel
theorem dX12_insertIntoRow_115 : decode cX12_insertIntoRow 115 = .ok (.invokestatic 278, 3) := by decide +kernel
theorem dX12_insertIntoRow_118 : decode cX12_insertIntoRow 118 = .ok (.aload_n 0, 1) := by decide +kernel
theorem dX12_insertIntoRow_119 : decode cX12_insertIntoRow 119 = .ok (.getfield 47, 3) := by decide +kernel
theorem dX12_insertIntoRow_122 : decode cX12_insertIntoRow 122 = .ok (.iload_n 2, 1) := by decide +kernel
theorem dX12_insertIntoRow_123 : decode cX12_insertIntoRow 123 = .ok (.aload_n 1, 1) := by decide +kernel
theorem dX12_insertIntoRow_124 : decode cX12_insertIntoRow 124 = .ok (.getfield 186, 3) := by decide +kernel
theorem dX12_insertIntoRow_127 : decode cX12_insertIntoRow 127 = .ok (.iastore, 1) := by decide +kernel
theorem dX12_insertIntoRow_128 : decode cX12_insertIntoRow 128 = .ok (.aload_n 0, 1) := by decide +kernel
theorem dX12_insertIntoRow_129 : decode cX12_insertIntoRow 129 = .ok (.dup, 1) := by decide +kernel
theorem dX12_insertIntoRow_130 : decode cX12_insertIntoRow 130 = .ok (.getfield 268, 3) := by decide +kernel
theorem dX12_insertIntoRow_133 : decode cX12_insertIntoRow 133 = .ok (.iconst 1, 1) := by decide +kernel
theorem dX12_insertIntoRow_134 : decode cX12_insertIntoRow 134 = .ok (.iadd, 1) := by decide +kernel
theorem dX12_insertIntoRow_135 : decode cX12_insertIntoRow 135 = .ok (.putfield 268, 3) := by decide +kernel
theorem dX12_insertIntoRow_138 : decode cX12_insertIntoRow 138 = .ok (.return_, 1) := by decide +kernel
theorem dX12_inRow_0 : decode cX12_inRow 0 = .ok (.iload_n 1, 1) := by decide +kernel
theorem dX12_inRow_1 : decode cX12_inRow 1 = .ok (.ifCond .lt 33, 3) := by decide +kernel
theorem dX12_inRow_4 : decode cX12_inRow 4 = .ok (.iload_n 1, 1) := by decide +kernel
theorem dX12_inRow_5 : decode cX12_inRow 5 = .ok (.aload_n 0, 1) := by decide +kernel
theorem dX12_inRow_6 : decode cX12_inRow 6 = .ok (.getfield 268, 3) := by decide +kernel
theorem dX12_inRow_9 : decode cX12_inRow 9 = .ok (.if_icmp .ge 25, 3) := by decide +kernel
theorem dX12_inRow_12 : decode cX12_inRow 12 = .ok (.iload_n 1, 1) := by decide +kernel
theorem dX12_inRow_13 : decode cX12_inRow 13 = .ok (.aload_n 0, 1) := by decide +kernel
theorem dX12_inRow_14 : decode cX12_inRow 14 = .ok (.getfield 47, 3) := by decide +kernel
theorem dX12_inRow_17 : decode cX12_inRow 17 = .ok (.arraylength, 1) := by decide +kernel
theorem dX12_inRow_18 : decode cX12_inRow 18 = .ok (.if_icmp .ge 16, 3) := by decide +kernel
theorem dX12_inRow_21 : decode cX12_inRow 21 = .ok (.aload_n 0, 1) := by decide +kernel
theorem dX12_inRow_22 : decode cX12_inRow 22 = .ok (.aload_n 0, 1) := by decide +kernel
theorem dX12_inRow_23 : decode cX12_inRow 23 = .ok (.getfield 47, 3) := by decide +kernel
theorem dX12_inRow_26 : decode cX12_inRow 26 = .ok (.iload_n 1, 1) := by decide +kernel
theorem dX12_inRow_27 : decode cX12_inRow 27 = .ok (.iaload, 1) := by decide +kernel
theorem dX12_inRow_28 : decode cX12_inRow 28 = .ok (.invokevirtual 189, 3) := by decide +kernel
theorem dX12_inRow_31 : decode cX12_inRow 31 = .ok (.goto 4, 3) := by decide +kernel
theorem dX12_inRow_34 : decode cX12_inRow 34 = .ok (.aconst_null, 1) := by decide +kernel
theorem dX12_inRow_35 : decode cX12_inRow 35 = .ok (.areturn, 1) := by decide +kernel
theorem dX12_why_0 : decode cX12_why 0 = .ok (.aload_n 0, 1) := by decide +kernel
theorem dX12_why_1 : decode cX12_why 1 = .ok (.iload_n 1, 1) := by decide +kernel
theorem dX12_why_2 : decode cX12_why 2 = .ok (.invokevirtual 189, 3) := by decide +kernel
theorem dX12_why_5 : decode cX12_why 5 = .ok (.astore_n 3, 1) := by decide +kernel
theorem dX12_why_6 : decode cX12_why 6 = .ok (.aload_n 0, 1) := by decide +kernel
theorem dX12_why_7 : decode cX12_why 7 = .ok (.iload_n 2, 1) := by decide +kernel
theorem dX12_why_8 : decode cX12_why 8 = .ok (.invokevirtual 189, 3) := by decide +kernel
theorem dX12_why_11 : decode cX12_why 11 = .ok (.astore 4, 2) := by decide +kernel
theorem dX12_why_13 : decode cX12_why 13 = .ok (.aload_n 3, 1) := by decide +kernel
theorem dX12_why_14 : decode cX12_why 14 = .ok (.ifnull 13, 3) := by decide +kernel
theorem dX12_why_17 : decode cX12_why 17 = .ok (.aload 4, 2) := by decide +kernel
theorem dX12_why_19 : decode cX12_why 19 = .ok (.ifnull 8, 3) := by decide +kernel
theorem dX12_why_22 : decode cX12_why 22 = .ok (.iload_n 1, 1) := by decide +kernel
theorem dX12_why_23 : decode cX12_why 23 = .ok (.iload_n 2, 1) := by decide +kernel
theorem dX12_why_24 : decode cX12_why 24 = .ok (.if_icmp .ne 5, 3) := by decide +kernel
theorem dX12_why_27 : decode cX12_why 27 = .ok (.iconst (-1), 1) := by decide +kernel
theorem dX12_why_28 : decode cX12_why 28 = .ok (.ireturn, 1) := by decide +kernel
theorem dX12_why_29 : decode cX12_why 29 = .ok (.aload_n 0, 1) := by decide +kernel
theorem dX12_why_30 : decode cX12_why 30 = .ok (.getfield 28, 3) := by decide +kernel
theorem dX12_why_33 : decode cX12_why 33 = .ok (.iconst (-1), 1) := by decide +kernel
theorem dX12_why_34 : decode cX12_why 34 = .ok (.aload_n 0, 1) := by decide +kernel
theorem dX12_why_35 : decode cX12_why 35 = .ok (.getfield 133, 3) := by decide +kernel
theorem dX12_why_38 : decode cX12_why 38 = .ok (.invokevirtual 212, 3) := by decide +kernel
theorem dX12_why_41 : decode cX12_why 41 = .ok (.aload_n 0, 1) := by decide +kernel
theorem dX12_why_42 : decode cX12_why 42 = .ok (.getfield 28, 3) := by decide +kernel
theorem dX12_why_45 : decode cX12_why 45 = .ok (.aload_n 3, 1) := by decide +kernel
theorem dX12_why_46 : decode cX12_why 46 = .ok (.invokevirtual 223, 3) := by decide +kernel
theorem dX12_why_49 : decode cX12_why 49 = .ok (.aload_n 0, 1) := by decide +kernel
theorem dX12_why_50 : decode cX12_why 50 = .ok (.getfield 28, 3) := by decide +kernel
theorem dX12_why_53 : decode cX12_why 53 = .ok (.aload 4, 2) := by decide +kernel
theorem dX12_why_55 : decode cX12_why 55 = .ok (.invokevirtual 223, 3) := by decide +kernel
theorem dX12_why_58 : decode cX12_why 58 = .ok (.aload_n 0, 1) := by decide +kernel
theorem dX12_why_59 : decode cX12_why 59 = .ok (.getfield 28, 3) := by decide +kernel
theorem dX12_why_62 : decode cX12_why 62 = .ok (.aload_n 3, 1) := by decide +kernel
theorem dX12_why_63 : decode cX12_why 63 = .ok (.aload 4, 2) := by decide +kernel
theorem dX12_why_65 : decode cX12_why 65 = .ok (.invokevirtual 284, 3) := by decide +kernel
theorem dX12_why_68 : decode cX12_why 68 = .ok (.ifCond .ne 5, 3) := by decide +kernel
theorem dX12_why_71 : decode cX12_why 71 = .ok (.iconst 4, 1) := by decide +kernel
theorem dX12_why_72 : decode cX12_why 72 = .ok (.ireturn, 1) := by decide +kernel
theorem dX12_why_73 : decode cX12_why 73 = .ok (.aload_n 0, 1) := by decide +kernel
theorem dX12_why_74 : decode cX12_why 74 = .ok (.getfield 28, 3) := by decide +kernel
theorem dX12_why_77 : decode cX12_why 77 = .ok (.aload_n 3, 1) := by decide +kernel
theorem dX12_why_78 : decode cX12_why 78 = .ok (.aload 4, 2) := by decide +kernel
theorem dX12_why_80 : decode cX12_why 80 = .ok (.invokevirtual 274, 3) := by decide +kernel
theorem dX12_why_83 : decode cX12_why 83 = .ok (.istore 5, 2) := by decide +kernel
theorem dX12_why_85 : decode cX12_why 85 = .ok (.iconst 1, 1) := by decide +kernel
theorem dX12_why_86 : decode cX12_why 86 = .ok (.istore 6, 2) := by decide +kernel
theorem dX12_why_88 : decode cX12_why 88 = .ok (.iload 6, 2) := by decide +kernel
theorem dX12_why_90 : decode cX12_why 90 = .ok (.iconst 3, 1) := by decide +kernel
theorem dX12_why_91 : decode cX12_why 91 = .ok (.if_icmp .gt 65, 3) := by decide +kernel
theorem dX12_why_94 : decode cX12_why 94 = .ok (.aload_n 0, 1) := by decide +kernel
theorem dX12_why_95 : decode cX12_why 95 = .ok (.getfield 28, 3) := by decide +kernel
theorem dX12_why_98 : decode cX12_why 98 = .ok (.iconst (-1), 1) := by decide +kernel
theorem dX12_why_99 : decode cX12_why 99 = .ok (.aload_n 0, 1) := by decide +kernel
theorem dX12_why_100 : decode cX12_why 100 = .ok (.getfield 133, 3) := by decide +kernel
theorem dX12_why_103 : decode cX12_why 103 = .ok (.invokevirtual 212, 3) := by decide +kernel
theorem dX12_why_106 : decode cX12_why 106 = .ok (.aload_n 0, 1) := by decide +kernel
theorem dX12_why_107 : decode cX12_why 107 = .ok (.getfield 28, 3) := by decide +kernel
theorem dX12_why_110 : decode cX12_why 110 = .ok (.iload 6, 2) := by decide +kernel
theorem dX12_why_112 : decode cX12_why 112 = .ok (.invokevirtual 288, 3) := by decide +kernel
theorem dX12_why_115 : decode cX12_why 115 = .ok (.aload_n 0, 1) := by decide +kernel
theorem dX12_why_116 : decode cX12_why 116 = .ok (.getfield 28, 3) := by decide +kernel
theorem dX12_why_119 : decode cX12_why 119 = .ok (.aload_n 3, 1) := by decide +kernel
theorem dX12_why_120 : decode cX12_why 120 = .ok (.invokevirtual 223, 3) := by decide +kernel
theorem dX12_why_123 : decode cX12_why 123 = .ok (.aload_n 0, 1) := by decide +kernel
theorem dX12_why_124 : decode cX12_why 124 = .ok (.getfield 28, 3) := by decide +kernel
theorem dX12_why_127 : decode cX12_why 127 = .ok (.aload 4, 2) := by decide +kernel
theorem dX12_why_129 : decode cX12_why 129 = .ok (.invokevirtual 223, 3) := by decide +kernel
theorem dX12_why_132 : decode cX12_why 132 = .ok (.aload_n 0, 1) := by decide +kernel
theorem dX12_why_133 : decode cX12_why 133 = .ok (.getfield 28, 3) := by decide +kernel
theorem dX12_why_136 : decode cX12_why 136 = .ok (.aload_n 3, 1) := by decide +kernel
theorem dX12_why_137 : decode cX12_why 137 = .ok (.aload 4, 2) := by decide +kernel
theorem dX12_why_139 : decode cX12_why 139 = .ok (.invokevirtual 274, 3) := by decide +kernel
theorem dX12_why_142 : decode cX12_why 142 = .ok (.iload 5, 2) := by decide +kernel
theorem dX12_why_144 : decode cX12_why 144 = .ok (.if_icmp .eq 6, 3) := by decide +kernel
theorem dX12_why_147 : decode cX12_why 147 = .ok (.iload 6, 2) := by decide +kernel
theorem dX12_why_149 : decode cX12_why 149 = .ok (.ireturn, 1) := by decide +kernel
theorem dX12_why_150 : decode cX12_why 150 = .ok (.iinc 6 1, 3) := by decide +kernel
theorem dX12_why_153 : decode cX12_why 153 = .ok (.goto (-65), 3) := by decide +kernel
theorem dX12_why_156 : decode cX12_why 156 = .ok (.iconst 0, 1) := by decide +kernel
theorem dX12_why_157 : decode cX12_why 157 = .ok (.ireturn, 1) := by decide +kernel
theorem dX12_hand_0 : decode cX12_hand 0 = .ok (.iload_n 1, 1) := by decide +kernel
theorem dX12_hand_1 : decode cX12_hand 1 = .ok (.iconst 1, 1) := by decide +kernel
theorem dX12_hand_2 : decode cX12_hand 2 = .ok (.if_icmp .lt 36, 3) := by decide +kernel
theorem dX12_hand_5 : decode cX12_hand 5 = .ok (.iload_n 1, 1) := by decide +kernel
theorem dX12_hand_6 : decode cX12_hand 6 = .ok (.sipush 255, 3) := by decide +kernel
theorem dX12_hand_9 : decode cX12_hand 9 = .ok (.if_icmp .gt 29, 3) := by decide +kernel
theorem dX12_hand_12 : decode cX12_hand 12 = .ok (.iload_n 2, 1) := by decide +kernel
theorem dX12_hand_13 : decode cX12_hand 13 = .ok (.iconst 1, 1) := by decide +kernel
theorem dX12_hand_14 : decode cX12_hand 14 = .ok (.if_icmp .lt 24, 3) := by decide +kernel
theorem dX12_hand_17 : decode cX12_hand 17 = .ok (.iload_n 2, 1) := by decide +kernel
theorem dX12_hand_18 : decode cX12_hand 18 = .ok (.bipush 20, 2) := by decide +kernel
theorem dX12_hand_20 : decode cX12_hand 20 = .ok (.if_icmp .gt 18, 3) := by decide +kernel
theorem dX12_hand_23 : decode cX12_hand 23 = .ok (.iload_n 3, 1) := by decide +kernel
theorem dX12_hand_24 : decode cX12_hand 24 = .ok (.ldc_w 291, 3) := by decide +kernel
theorem dX12_hand_27 : decode cX12_hand 27 = .ok (.if_icmp .lt 11, 3) := by decide +kernel
theorem dX12_hand_30 : decode cX12_hand 30 = .ok (.iload_n 3, 1) := by decide +kernel
theorem dX12_hand_31 : decode cX12_hand 31 = .ok (.ifCond .gt 7, 3) := by decide +kernel
theorem dX12_hand_34 : decode cX12_hand 34 = .ok (.iconst 1, 1) := by decide +kernel
theorem dX12_hand_35 : decode cX12_hand 35 = .ok (.goto 4, 3) := by decide +kernel
theorem dX12_hand_38 : decode cX12_hand 38 = .ok (.iconst 0, 1) := by decide +kernel
theorem dX12_hand_39 : decode cX12_hand 39 = .ok (.istore 4, 2) := by decide +kernel
theorem dX12_hand_41 : decode cX12_hand 41 = .ok (.iload 4, 2) := by decide +kernel
theorem dX12_hand_43 : decode cX12_hand 43 = .ok (.ifCond .eq 12, 3) := by decide +kernel
theorem dX12_hand_46 : decode cX12_hand 46 = .ok (.aload_n 0, 1) := by decide +kernel
theorem dX12_hand_47 : decode cX12_hand 47 = .ok (.getfield 292, 3) := by decide +kernel
theorem dX12_hand_50 : decode cX12_hand 50 = .ok (.bipush 12, 2) := by decide +kernel
theorem dX12_hand_52 : decode cX12_hand 52 = .ok (.if_icmp .lt 5, 3) := by decide +kernel
theorem dX12_hand_55 : decode cX12_hand 55 = .ok (.iconst (-1), 1) := by decide +kernel
theorem dX12_hand_56 : decode cX12_hand 56 = .ok (.ireturn, 1) := by decide +kernel
theorem dX12_hand_57 : decode cX12_hand 57 = .ok (.aload_n 0, 1) := by decide +kernel
theorem dX12_hand_58 : decode cX12_hand 58 = .ok (.getfield 53, 3) := by decide +kernel
theorem dX12_hand_61 : decode cX12_hand 61 = .ok (.aload_n 0, 1) := by decide +kernel
theorem dX12_hand_62 : decode cX12_hand 62 = .ok (.getfield 292, 3) := by decide +kernel
theorem dX12_hand_65 : decode cX12_hand 65 = .ok (.new 51, 3) := by decide +kernel
theorem dX12_hand_68 : decode cX12_hand 68 = .ok (.dup, 1) := by decide +kernel
theorem dX12_hand_69 : decode cX12_hand 69 = .ok (.iload_n 1, 1) := by decide +kernel
theorem dX12_hand_70 : decode cX12_hand 70 = .ok (.iload_n 2, 1) := by decide +kernel
theorem dX12_hand_71 : decode cX12_hand 71 = .ok (.iload_n 3, 1) := by decide +kernel
theorem dX12_hand_72 : decode cX12_hand 72 = .ok (.invokespecial 295, 3) := by decide +kernel
theorem dX12_hand_75 : decode cX12_hand 75 = .ok (.aastore, 1) := by decide +kernel
theorem dX12_hand_76 : decode cX12_hand 76 = .ok (.aload_n 0, 1) := by decide +kernel
theorem dX12_hand_77 : decode cX12_hand 77 = .ok (.dup, 1) := by decide +kernel
theorem dX12_hand_78 : decode cX12_hand 78 = .ok (.getfield 292, 3) := by decide +kernel
theorem dX12_hand_81 : decode cX12_hand 81 = .ok (.iconst 1, 1) := by decide +kernel
theorem dX12_hand_82 : decode cX12_hand 82 = .ok (.iadd, 1) := by decide +kernel
theorem dX12_hand_83 : decode cX12_hand 83 = .ok (.putfield 292, 3) := by decide +kernel
theorem dX12_hand_86 : decode cX12_hand 86 = .ok (.aload_n 0, 1) := by decide +kernel
theorem dX12_hand_87 : decode cX12_hand 87 = .ok (.getfield 292, 3) := by decide +kernel
theorem dX12_hand_90 : decode cX12_hand 90 = .ok (.iconst 1, 1) := by decide +kernel
theorem dX12_hand_91 : decode cX12_hand 91 = .ok (.isub, 1) := by decide +kernel
theorem dX12_hand_92 : decode cX12_hand 92 = .ok (.ireturn, 1) := by decide +kernel
theorem dX12_handAt_0 : decode cX12_handAt 0 = .ok (.iload_n 1, 1) := by decide +kernel
theorem dX12_handAt_1 : decode cX12_handAt 1 = .ok (.ifCond .lt 26, 3) := by decide +kernel
theorem dX12_handAt_4 : decode cX12_handAt 4 = .ok (.iload_n 1, 1) := by decide +kernel
theorem dX12_handAt_5 : decode cX12_handAt 5 = .ok (.aload_n 0, 1) := by decide +kernel
theorem dX12_handAt_6 : decode cX12_handAt 6 = .ok (.getfield 292, 3) := by decide +kernel
theorem dX12_handAt_9 : decode cX12_handAt 9 = .ok (.if_icmp .ge 18, 3) := by decide +kernel
theorem dX12_handAt_12 : decode cX12_handAt 12 = .ok (.iload_n 1, 1) := by decide +kernel
theorem dX12_handAt_13 : decode cX12_handAt 13 = .ok (.bipush 12, 2) := by decide +kernel
theorem dX12_handAt_15 : decode cX12_handAt 15 = .ok (.if_icmp .ge 12, 3) := by decide +kernel
theorem dX12_handAt_18 : decode cX12_handAt 18 = .ok (.aload_n 0, 1) := by decide +kernel
theorem dX12_handAt_19 : decode cX12_handAt 19 = .ok (.getfield 53, 3) := by decide +kernel
theorem dX12_handAt_22 : decode cX12_handAt 22 = .ok (.iload_n 1, 1) := by decide +kernel
theorem dX12_handAt_23 : decode cX12_handAt 23 = .ok (.aaload, 1) := by decide +kernel
theorem dX12_handAt_24 : decode cX12_handAt 24 = .ok (.goto 4, 3) := by decide +kernel
theorem dX12_handAt_27 : decode cX12_handAt 27 = .ok (.aconst_null, 1) := by decide +kernel
theorem dX12_handAt_28 : decode cX12_handAt 28 = .ok (.areturn, 1) := by decide +kernel
theorem dX12_livingHandAt_0 : decode cX12_livingHandAt 0 = .ok (.aload_n 0, 1) := by decide +kernel
theorem dX12_livingHandAt_1 : decode cX12_livingHandAt 1 = .ok (.iload_n 1, 1) := by decide +kernel
theorem dX12_livingHandAt_2 : decode cX12_livingHandAt 2 = .ok (.invokevirtual 296, 3) := by decide +kernel
theorem dX12_livingHandAt_5 : decode cX12_livingHandAt 5 = .ok (.astore_n 2, 1) := by decide +kernel
theorem dX12_livingHandAt_6 : decode cX12_livingHandAt 6 = .ok (.aload_n 2, 1) := by decide +kernel
theorem dX12_livingHandAt_7 : decode cX12_livingHandAt 7 = .ok (.ifnull 14, 3) := by decide +kernel
theorem dX12_livingHandAt_10 : decode cX12_livingHandAt 10 = .ok (.aload_n 2, 1) := by decide +kernel
theorem dX12_livingHandAt_11 : decode cX12_livingHandAt 11 = .ok (.getfield 300, 3) := by decide +kernel
theorem dX12_livingHandAt_14 : decode cX12_livingHandAt 14 = .ok (.ifCond .eq 7, 3) := by decide +kernel
theorem dX12_livingHandAt_17 : decode cX12_livingHandAt 17 = .ok (.aload_n 2, 1) := by decide +kernel
theorem dX12_livingHandAt_18 : decode cX12_livingHandAt 18 = .ok (.goto 4, 3) := by decide +kernel
theorem dX12_livingHandAt_21 : decode cX12_livingHandAt 21 = .ok (.aconst_null, 1) := by decide +kernel
theorem dX12_livingHandAt_22 : decode cX12_livingHandAt 22 = .ok (.areturn, 1) := by decide +kernel
theorem dX12_enemies_0 : decode cX12_enemies 0 = .ok (.aload_n 0, 1) := by decide +kernel
theorem dX12_enemies_1 : decode cX12_enemies 1 = .ok (.iload_n 1, 1) := by decide +kernel
theorem dX12_enemies_2 : decode cX12_enemies 2 = .ok (.invokevirtual 296, 3) := by decide +kernel
theorem dX12_enemies_5 : decode cX12_enemies 5 = .ok (.astore_n 3, 1) := by decide +kernel
theorem dX12_enemies_6 : decode cX12_enemies 6 = .ok (.aload_n 0, 1) := by decide +kernel
theorem dX12_enemies_7 : decode cX12_enemies 7 = .ok (.iload_n 2, 1) := by decide +kernel
theorem dX12_enemies_8 : decode cX12_enemies 8 = .ok (.invokevirtual 296, 3) := by decide +kernel
theorem dX12_enemies_11 : decode cX12_enemies 11 = .ok (.astore 4, 2) := by decide +kernel
theorem dX12_enemies_13 : decode cX12_enemies 13 = .ok (.aload_n 3, 1) := by decide +kernel
theorem dX12_enemies_14 : decode cX12_enemies 14 = .ok (.ifnull 24, 3) := by decide +kernel
theorem dX12_enemies_17 : decode cX12_enemies 17 = .ok (.aload 4, 2) := by decide +kernel
theorem dX12_enemies_19 : decode cX12_enemies 19 = .ok (.ifnull 19, 3) := by decide +kernel
theorem dX12_enemies_22 : decode cX12_enemies 22 = .ok (.iload_n 1, 1) := by decide +kernel
theorem dX12_enemies_23 : decode cX12_enemies 23 = .ok (.iload_n 2, 1) := by decide +kernel
theorem dX12_enemies_24 : decode cX12_enemies 24 = .ok (.if_icmp .eq 14, 3) := by decide +kernel
theorem dX12_enemies_27 : decode cX12_enemies 27 = .ok (.aload_n 3, 1) := by decide +kernel
theorem dX12_enemies_28 : decode cX12_enemies 28 = .ok (.getfield 303, 3) := by decide +kernel
theorem dX12_enemies_31 : decode cX12_enemies 31 = .ok (.iload_n 2, 1) := by decide +kernel
theorem dX12_enemies_32 : decode cX12_enemies 32 = .ok (.ishr, 1) := by decide +kernel
theorem dX12_enemies_33 : decode cX12_enemies 33 = .ok (.iconst 1, 1) := by decide +kernel
theorem dX12_enemies_34 : decode cX12_enemies 34 = .ok (.iand, 1) := by decide +kernel
theorem dX12_enemies_35 : decode cX12_enemies 35 = .ok (.ifCond .eq 5, 3) := by decide +kernel
theorem dX12_enemies_38 : decode cX12_enemies 38 = .ok (.iconst 0, 1) := by decide +kernel
theorem dX12_enemies_39 : decode cX12_enemies 39 = .ok (.ireturn, 1) := by decide +kernel
theorem dX12_enemies_40 : decode cX12_enemies 40 = .ok (.aload_n 3, 1) := by decide +kernel
theorem dX12_enemies_41 : decode cX12_enemies 41 = .ok (.dup, 1) := by decide +kernel
theorem dX12_enemies_42 : decode cX12_enemies 42 = .ok (.getfield 303, 3) := by decide +kernel
theorem dX12_enemies_45 : decode cX12_enemies 45 = .ok (.iconst 1, 1) := by decide +kernel
theorem dX12_enemies_46 : decode cX12_enemies 46 = .ok (.iload_n 2, 1) := by decide +kernel
theorem dX12_enemies_47 : decode cX12_enemies 47 = .ok (.ishl, 1) := by decide +kernel
theorem dX12_enemies_48 : decode cX12_enemies 48 = .ok (.ior, 1) := by decide +kernel
theorem dX12_enemies_49 : decode cX12_enemies 49 = .ok (.putfield 303, 3) := by decide +kernel
theorem dX12_enemies_52 : decode cX12_enemies 52 = .ok (.aload 4, 2) := by decide +kernel
theorem dX12_enemies_54 : decode cX12_enemies 54 = .ok (.dup, 1) := by decide +kernel
theorem dX12_enemies_55 : decode cX12_enemies 55 = .ok (.getfield 303, 3) := by decide +kernel
theorem dX12_enemies_58 : decode cX12_enemies 58 = .ok (.iconst 1, 1) := by decide +kernel
theorem dX12_enemies_59 : decode cX12_enemies 59 = .ok (.iload_n 1, 1) := by decide +kernel
theorem dX12_enemies_60 : decode cX12_enemies 60 = .ok (.ishl, 1) := by decide +kernel
theorem dX12_enemies_61 : decode cX12_enemies 61 = .ok (.ior, 1) := by decide +kernel
theorem dX12_enemies_62 : decode cX12_enemies 62 = .ok (.putfield 303, 3) := by decide +kernel
theorem dX12_enemies_65 : decode cX12_enemies 65 = .ok (.iconst 1, 1) := by decide +kernel
theorem dX12_enemies_66 : decode cX12_enemies 66 = .ok (.ireturn, 1) := by decide +kernel
theorem dX12_give_0 : decode cX12_give 0 = .ok (.aload_n 0, 1) := by decide +kernel
theorem dX12_give_1 : decode cX12_give 1 = .ok (.iload_n 1, 1) := by decide +kernel
theorem dX12_give_2 : decode cX12_give 2 = .ok (.iconst 0, 1) := by decide +kernel
theorem dX12_give_3 : decode cX12_give 3 = .ok (.invokevirtual 243, 3) := by decide +kernel
theorem dX12_give_6 : decode cX12_give 6 = .ok (.astore_n 3, 1) := by decide +kernel
theorem dX12_give_7 : decode cX12_give 7 = .ok (.aload_n 3, 1) := by decide +kernel
theorem dX12_give_8 : decode cX12_give 8 = .ok (.ifnull 19, 3) := by decide +kernel
theorem dX12_give_11 : decode cX12_give 11 = .ok (.aload_n 3, 1) := by decide +kernel
theorem dX12_give_12 : decode cX12_give 12 = .ok (.invokevirtual 306, 3) := by decide +kernel
theorem dX12_give_15 : decode cX12_give 15 = .ok (.ifCond .ne 12, 3) := by decide +kernel
theorem dX12_give_18 : decode cX12_give 18 = .ok (.aload_n 0, 1) := by decide +kernel
theorem dX12_give_19 : decode cX12_give 19 = .ok (.aload_n 3, 1) := by decide +kernel
theorem dX12_give_20 : decode cX12_give 20 = .ok (.iload_n 2, 1) := by decide +kernel
theorem dX12_give_21 : decode cX12_give 21 = .ok (.invokevirtual 309, 3) := by decide +kernel
theorem dX12_give_24 : decode cX12_give 24 = .ok (.ifCond .ne 5, 3) := by decide +kernel
theorem dX12_give_27 : decode cX12_give 27 = .ok (.iconst 0, 1) := by decide +kernel
theorem dX12_give_28 : decode cX12_give 28 = .ok (.ireturn, 1) := by decide +kernel
theorem dX12_give_29 : decode cX12_give 29 = .ok (.aload_n 3, 1) := by decide +kernel
theorem dX12_give_30 : decode cX12_give 30 = .ok (.iload_n 2, 1) := by decide +kernel
theorem dX12_give_31 : decode cX12_give 31 = .ok (.putfield 313, 3) := by decide +kernel
theorem dX12_give_34 : decode cX12_give 34 = .ok (.iconst 1, 1) := by decide +kernel
theorem dX12_give_35 : decode cX12_give 35 = .ok (.ireturn, 1) := by decide +kernel
theorem dX12_mayTake_0 : decode cX12_mayTake 0 = .ok (.aload_n 0, 1) := by decide +kernel
theorem dX12_mayTake_1 : decode cX12_mayTake 1 = .ok (.iload_n 2, 1) := by decide +kernel
theorem dX12_mayTake_2 : decode cX12_mayTake 2 = .ok (.invokevirtual 316, 3) := by decide +kernel
theorem dX12_mayTake_5 : decode cX12_mayTake 5 = .ok (.astore_n 3, 1) := by decide +kernel
theorem dX12_mayTake_6 : decode cX12_mayTake 6 = .ok (.aload_n 3, 1) := by decide +kernel
theorem dX12_mayTake_7 : decode cX12_mayTake 7 = .ok (.ifnull 19, 3) := by decide +kernel
theorem dX12_mayTake_10 : decode cX12_mayTake 10 = .ok (.aload_n 0, 1) := by decide +kernel
theorem dX12_mayTake_11 : decode cX12_mayTake 11 = .ok (.aload_n 1, 1) := by decide +kernel
theorem dX12_mayTake_12 : decode cX12_mayTake 12 = .ok (.invokevirtual 319, 3) := by decide +kernel
theorem dX12_mayTake_15 : decode cX12_mayTake 15 = .ok (.ifCond .ne 11, 3) := by decide +kernel
theorem dX12_mayTake_18 : decode cX12_mayTake 18 = .ok (.aload_n 1, 1) := by decide +kernel
theorem dX12_mayTake_19 : decode cX12_mayTake 19 = .ok (.getfield 247, 3) := by decide +kernel
theorem dX12_mayTake_22 : decode cX12_mayTake 22 = .ok (.iconst (-1), 1) := by decide +kernel
theorem dX12_mayTake_23 : decode cX12_mayTake 23 = .ok (.if_icmp .eq 5, 3) := by decide +kernel
theorem dX12_mayTake_26 : decode cX12_mayTake 26 = .ok (.iconst 0, 1) := by decide +kernel
theorem dX12_mayTake_27 : decode cX12_mayTake 27 = .ok (.ireturn, 1) := by decide +kernel
theorem dX12_mayTake_28 : decode cX12_mayTake 28 = .ok (.aload_n 3, 1) := by decide +kernel
theorem dX12_mayTake_29 : decode cX12_mayTake 29 = .ok (.getfield 322, 3) := by decide +kernel
theorem dX12_mayTake_32 : decode cX12_mayTake 32 = .ok (.aload_n 1, 1) := by decide +kernel
theorem dX12_mayTake_33 : decode cX12_mayTake 33 = .ok (.getfield 180, 3) := by decide +kernel
theorem dX12_mayTake_36 : decode cX12_mayTake 36 = .ok (.ishr, 1) := by decide +kernel
theorem dX12_mayTake_37 : decode cX12_mayTake 37 = .ok (.iconst 1, 1) := by decide +kernel
theorem dX12_mayTake_38 : decode cX12_mayTake 38 = .ok (.iand, 1) := by decide +kernel
theorem dX12_mayTake_39 : decode cX12_mayTake 39 = .ok (.ifCond .eq 15, 3) := by decide +kernel
theorem dX12_mayTake_42 : decode cX12_mayTake 42 = .ok (.aload_n 3, 1) := by decide +kernel
theorem dX12_mayTake_43 : decode cX12_mayTake 43 = .ok (.getfield 303, 3) := by decide +kernel
theorem dX12_mayTake_46 : decode cX12_mayTake 46 = .ok (.aload_n 1, 1) := by decide +kernel
theorem dX12_mayTake_47 : decode cX12_mayTake 47 = .ok (.getfield 325, 3) := by decide +kernel
theorem dX12_mayTake_50 : decode cX12_mayTake 50 = .ok (.iand, 1) := by decide +kernel
theorem dX12_mayTake_51 : decode cX12_mayTake 51 = .ok (.ifCond .eq 5, 3) := by decide +kernel
theorem dX12_mayTake_54 : decode cX12_mayTake 54 = .ok (.iconst 0, 1) := by decide +kernel
theorem dX12_mayTake_55 : decode cX12_mayTake 55 = .ok (.ireturn, 1) := by decide +kernel
theorem dX12_mayTake_56 : decode cX12_mayTake 56 = .ok (.aload_n 0, 1) := by decide +kernel
theorem dX12_mayTake_57 : decode cX12_mayTake 57 = .ok (.iconst 2, 1) := by decide +kernel
theorem dX12_mayTake_58 : decode cX12_mayTake 58 = .ok (.aload_n 1, 1) := by decide +kernel
theorem dX12_mayTake_59 : decode cX12_mayTake 59 = .ok (.iload_n 2, 1) := by decide +kernel
theorem dX12_mayTake_60 : decode cX12_mayTake 60 = .ok (.invokevirtual 328, 3) := by decide +kernel
theorem dX12_mayTake_63 : decode cX12_mayTake 63 = .ok (.ifCond .eq 7, 3) := by decide +kernel
theorem dX12_mayTake_66 : decode cX12_mayTake 66 = .ok (.iconst 1, 1) := by decide +kernel
theorem dX12_mayTake_67 : decode cX12_mayTake 67 = .ok (.goto 4, 3) := by decide +kernel
theorem dX12_mayTake_70 : decode cX12_mayTake 70 = .ok (.iconst 0, 1) := by decide +kernel
theorem dX12_mayTake_71 : decode cX12_mayTake 71 = .ok (.ireturn, 1) := by decide +kernel
theorem dX12_valueFor_0 : decode cX12_valueFor 0 = .ok (.aload_n 0, 1) := by decide +kernel
theorem dX12_valueFor_1 : decode cX12_valueFor 1 = .ok (.aload_n 2, 1) := by decide +kernel
theorem dX12_valueFor_2 : decode cX12_valueFor 2 = .ok (.invokevirtual 260, 3) := by decide +kernel
theorem dX12_valueFor_5 : decode cX12_valueFor 5 = .ok (.istore 4, 2) := by decide +kernel
theorem dX12_valueFor_7 : decode cX12_valueFor 7 = .ok (.aload_n 0, 1) := by decide +kernel
theorem dX12_valueFor_8 : decode cX12_valueFor 8 = .ok (.aload_n 2, 1) := by decide +kernel
theorem dX12_valueFor_9 : decode cX12_valueFor 9 = .ok (.iload 4, 2) := by decide +kernel
theorem dX12_valueFor_11 : decode cX12_valueFor 11 = .ok (.iload_n 3, 1) := by decide +kernel
theorem dX12_valueFor_12 : decode cX12_valueFor 12 = .ok (.invokevirtual 332, 3) := by decide +kernel
theorem dX12_valueFor_15 : decode cX12_valueFor 15 = .ok (.aload_n 0, 1) := by decide +kernel
theorem dX12_valueFor_16 : decode cX12_valueFor 16 = .ok (.getfield 19, 3) := by decide +kernel
theorem dX12_valueFor_19 : decode cX12_valueFor 19 = .ok (.iload_n 1, 1) := by decide +kernel
theorem dX12_valueFor_20 : decode cX12_valueFor 20 = .ok (.iload 4, 2) := by decide +kernel
theorem dX12_valueFor_22 : decode cX12_valueFor 22 = .ok (.bipush 6, 2) := by decide +kernel
theorem dX12_valueFor_24 : decode cX12_valueFor 24 = .ok (.if_icmp .ne 7, 3) := by decide +kernel
theorem dX12_valueFor_27 : decode cX12_valueFor 27 = .ok (.iconst (-1), 1) := by decide +kernel
theorem dX12_valueFor_28 : decode cX12_valueFor 28 = .ok (.goto 5, 3) := by decide +kernel
theorem dX12_valueFor_31 : decode cX12_valueFor 31 = .ok (.iload 4, 2) := by decide +kernel
theorem dX12_valueFor_33 : decode cX12_valueFor 33 = .ok (.aload_n 0, 1) := by decide +kernel
theorem dX12_valueFor_34 : decode cX12_valueFor 34 = .ok (.getfield 133, 3) := by decide +kernel
theorem dX12_valueFor_37 : decode cX12_valueFor 37 = .ok (.invokevirtual 336, 3) := by decide +kernel
theorem dX12_valueFor_40 : decode cX12_valueFor 40 = .ok (.ireturn, 1) := by decide +kernel
theorem dX12_ask_0 : decode cX12_ask 0 = .ok (.aload_n 0, 1) := by decide +kernel
theorem dX12_ask_1 : decode cX12_ask 1 = .ok (.iload_n 3, 1) := by decide +kernel
theorem dX12_ask_2 : decode cX12_ask 2 = .ok (.invokevirtual 296, 3) := by decide +kernel
theorem dX12_ask_5 : decode cX12_ask 5 = .ok (.astore 4, 2) := by decide +kernel
theorem dX12_ask_7 : decode cX12_ask 7 = .ok (.aload_n 0, 1) := by decide +kernel
theorem dX12_ask_8 : decode cX12_ask 8 = .ok (.getfield 19, 3) := by decide +kernel
theorem dX12_ask_11 : decode cX12_ask 11 = .ok (.iconst 0, 1) := by decide +kernel
theorem dX12_ask_12 : decode cX12_ask 12 = .ok (.aload_n 1, 1) := by decide +kernel
theorem dX12_ask_13 : decode cX12_ask 13 = .ok (.getfield 183, 3) := by decide +kernel
theorem dX12_ask_16 : decode cX12_ask 16 = .ok (.invokevirtual 339, 3) := by decide +kernel
theorem dX12_ask_19 : decode cX12_ask 19 = .ok (.aload_n 0, 1) := by decide +kernel
theorem dX12_ask_20 : decode cX12_ask 20 = .ok (.getfield 19, 3) := by decide +kernel
theorem dX12_ask_23 : decode cX12_ask 23 = .ok (.iconst 1, 1) := by decide +kernel
theorem dX12_ask_24 : decode cX12_ask 24 = .ok (.aload_n 1, 1) := by decide +kernel
theorem dX12_ask_25 : decode cX12_ask 25 = .ok (.getfield 342, 3) := by decide +kernel
theorem dX12_ask_28 : decode cX12_ask 28 = .ok (.invokevirtual 339, 3) := by decide +kernel
theorem dX12_ask_31 : decode cX12_ask 31 = .ok (.aload_n 0, 1) := by decide +kernel
theorem dX12_ask_32 : decode cX12_ask 32 = .ok (.getfield 19, 3) := by decide +kernel
theorem dX12_ask_35 : decode cX12_ask 35 = .ok (.iconst 2, 1) := by decide +kernel
theorem dX12_ask_36 : decode cX12_ask 36 = .ok (.aload_n 1, 1) := by decide +kernel
theorem dX12_ask_37 : decode cX12_ask 37 = .ok (.getfield 345, 3) := by decide +kernel
theorem dX12_ask_40 : decode cX12_ask 40 = .ok (.invokestatic 349, 3) := by decide +kernel
theorem dX12_ask_43 : decode cX12_ask 43 = .ok (.invokevirtual 339, 3) := by decide +kernel
theorem dX12_ask_46 : decode cX12_ask 46 = .ok (.aload_n 0, 1) := by decide +kernel
theorem dX12_ask_47 : decode cX12_ask 47 = .ok (.getfield 19, 3) := by decide +kernel
theorem dX12_ask_50 : decode cX12_ask 50 = .ok (.iconst 3, 1) := by decide +kernel
theorem dX12_ask_51 : decode cX12_ask 51 = .ok (.aload_n 0, 1) := by decide +kernel
theorem dX12_ask_52 : decode cX12_ask 52 = .ok (.aload_n 1, 1) := by decide +kernel
theorem dX12_ask_53 : decode cX12_ask 53 = .ok (.getfield 186, 3) := by decide +kernel
theorem dX12_ask_56 : decode cX12_ask 56 = .ok (.invokevirtual 355, 3) := by decide +kernel
theorem dX12_ask_59 : decode cX12_ask 59 = .ok (.invokevirtual 339, 3) := by decide +kernel
theorem dX12_ask_62 : decode cX12_ask 62 = .ok (.aload_n 0, 1) := by decide +kernel
theorem dX12_ask_63 : decode cX12_ask 63 = .ok (.getfield 19, 3) := by decide +kernel
theorem dX12_ask_66 : decode cX12_ask 66 = .ok (.iconst 4, 1) := by decide +kernel
theorem dX12_ask_67 : decode cX12_ask 67 = .ok (.aload_n 1, 1) := by decide +kernel
theorem dX12_ask_68 : decode cX12_ask 68 = .ok (.getfield 180, 3) := by decide +kernel
theorem dX12_ask_71 : decode cX12_ask 71 = .ok (.invokevirtual 339, 3) := by decide +kernel
theorem dX12_ask_74 : decode cX12_ask 74 = .ok (.aload_n 0, 1) := by decide +kernel
theorem dX12_ask_75 : decode cX12_ask 75 = .ok (.getfield 19, 3) := by decide +kernel
theorem dX12_ask_78 : decode cX12_ask 78 = .ok (.iconst 5, 1) := by decide +kernel
theorem dX12_ask_79 : decode cX12_ask 79 = .ok (.aload 4, 2) := by decide +kernel
theorem dX12_ask_81 : decode cX12_ask 81 = .ok (.ifnonnull 7, 3) := by decide +kernel
theorem dX12_ask_84 : decode cX12_ask 84 = .ok (.iconst 0, 1) := by decide +kernel
theorem dX12_ask_85 : decode cX12_ask 85 = .ok (.goto 8, 3) := by decide +kernel
theorem dX12_ask_88 : decode cX12_ask 88 = .ok (.aload 4, 2) := by decide +kernel
theorem dX12_ask_90 : decode cX12_ask 90 = .ok (.getfield 358, 3) := by decide +kernel
theorem dX12_ask_93 : decode cX12_ask 93 = .ok (.invokevirtual 339, 3) := by decide +kernel
theorem dX12_ask_96 : decode cX12_ask 96 = .ok (.aload_n 0, 1) := by decide +kernel
theorem dX12_ask_97 : decode cX12_ask 97 = .ok (.getfield 19, 3) := by decide +kernel
theorem dX12_ask_100 : decode cX12_ask 100 = .ok (.bipush 6, 2) := by decide +kernel
theorem dX12_ask_102 : decode cX12_ask 102 = .ok (.aload 4, 2) := by decide +kernel
theorem dX12_ask_104 : decode cX12_ask 104 = .ok (.ifnonnull 7, 3) := by decide +kernel
theorem dX12_ask_107 : decode cX12_ask 107 = .ok (.iconst 0, 1) := by decide +kernel
theorem dX12_ask_108 : decode cX12_ask 108 = .ok (.goto 17, 3) := by decide +kernel
theorem dX12_ask_111 : decode cX12_ask 111 = .ok (.aload_n 0, 1) := by decide +kernel
theorem dX12_ask_112 : decode cX12_ask 112 = .ok (.getfield 133, 3) := by decide +kernel
theorem dX12_ask_115 : decode cX12_ask 115 = .ok (.aload 4, 2) := by decide +kernel
theorem dX12_ask_117 : decode cX12_ask 117 = .ok (.getfield 361, 3) := by decide +kernel
theorem dX12_ask_120 : decode cX12_ask 120 = .ok (.isub, 1) := by decide +kernel
theorem dX12_ask_121 : decode cX12_ask 121 = .ok (.sipush 365, 3) := by decide +kernel
theorem dX12_ask_124 : decode cX12_ask 124 = .ok (.idiv, 1) := by decide +kernel
theorem dX12_ask_125 : decode cX12_ask 125 = .ok (.invokevirtual 339, 3) := by decide +kernel
theorem dX12_ask_128 : decode cX12_ask 128 = .ok (.aload_n 0, 1) := by decide +kernel
theorem dX12_ask_129 : decode cX12_ask 129 = .ok (.getfield 19, 3) := by decide +kernel
theorem dX12_ask_132 : decode cX12_ask 132 = .ok (.bipush 7, 2) := by decide +kernel
theorem dX12_ask_134 : decode cX12_ask 134 = .ok (.iload_n 2, 1) := by decide +kernel
theorem dX12_ask_135 : decode cX12_ask 135 = .ok (.invokevirtual 339, 3) := by decide +kernel
theorem dX12_ask_138 : decode cX12_ask 138 = .ok (.aload_n 0, 1) := by decide +kernel
theorem dX12_ask_139 : decode cX12_ask 139 = .ok (.getfield 19, 3) := by decide +kernel
theorem dX12_ask_142 : decode cX12_ask 142 = .ok (.bipush 8, 2) := by decide +kernel
theorem dX12_ask_144 : decode cX12_ask 144 = .ok (.aload 4, 2) := by decide +kernel
theorem dX12_ask_146 : decode cX12_ask 146 = .ok (.ifnonnull 7, 3) := by decide +kernel
theorem dX12_ask_149 : decode cX12_ask 149 = .ok (.iconst 0, 1) := by decide +kernel
theorem dX12_ask_150 : decode cX12_ask 150 = .ok (.goto 8, 3) := by decide +kernel
theorem dX12_ask_153 : decode cX12_ask 153 = .ok (.aload_n 0, 1) := by decide +kernel
theorem dX12_ask_154 : decode cX12_ask 154 = .ok (.iload_n 3, 1) := by decide +kernel
theorem dX12_ask_155 : decode cX12_ask 155 = .ok (.invokevirtual 364, 3) := by decide +kernel
theorem dX12_ask_158 : decode cX12_ask 158 = .ok (.invokevirtual 339, 3) := by decide +kernel
theorem dX12_ask_161 : decode cX12_ask 161 = .ok (.return_, 1) := by decide +kernel
theorem dX12_pointersTo_0 : decode cX12_pointersTo 0 = .ok (.iconst 0, 1) := by decide +kernel
theorem dX12_pointersTo_1 : decode cX12_pointersTo 1 = .ok (.istore_n 2, 1) := by decide +kernel
theorem dX12_pointersTo_2 : decode cX12_pointersTo 2 = .ok (.iconst 0, 1) := by decide +kernel
theorem dX12_pointersTo_3 : decode cX12_pointersTo 3 = .ok (.istore_n 3, 1) := by decide +kernel
theorem dX12_pointersTo_4 : decode cX12_pointersTo 4 = .ok (.iload_n 3, 1) := by decide +kernel
theorem dX12_pointersTo_5 : decode cX12_pointersTo 5 = .ok (.aload_n 0, 1) := by decide +kernel
theorem dX12_pointersTo_6 : decode cX12_pointersTo 6 = .ok (.getfield 203, 3) := by decide +kernel
theorem dX12_pointersTo_9 : decode cX12_pointersTo 9 = .ok (.if_icmp .ge 51, 3) := by decide +kernel
theorem dX12_pointersTo_12 : decode cX12_pointersTo 12 = .ok (.aload_n 0, 1) := by decide +kernel
theorem dX12_pointersTo_13 : decode cX12_pointersTo 13 = .ok (.iload_n 3, 1) := by decide +kernel
theorem dX12_pointersTo_14 : decode cX12_pointersTo 14 = .ok (.invokevirtual 189, 3) := by decide +kernel
theorem dX12_pointersTo_17 : decode cX12_pointersTo 17 = .ok (.astore 4, 2) := by decide +kernel
theorem dX12_pointersTo_19 : decode cX12_pointersTo 19 = .ok (.aload 4, 2) := by decide +kernel
theorem dX12_pointersTo_21 : decode cX12_pointersTo 21 = .ok (.ifnull 33, 3) := by decide +kernel
theorem dX12_pointersTo_24 : decode cX12_pointersTo 24 = .ok (.aload 4, 2) := by decide +kernel
theorem dX12_pointersTo_26 : decode cX12_pointersTo 26 = .ok (.getfield 240, 3) := by decide +kernel
theorem dX12_pointersTo_29 : decode cX12_pointersTo 29 = .ok (.iconst 1, 1) := by decide +kernel
theorem dX12_pointersTo_30 : decode cX12_pointersTo 30 = .ok (.if_icmp .ne 24, 3) := by decide +kernel
theorem dX12_pointersTo_33 : decode cX12_pointersTo 33 = .ok (.aload 4, 2) := by decide +kernel
theorem dX12_pointersTo_35 : decode cX12_pointersTo 35 = .ok (.getfield 193, 3) := by decide +kernel
theorem dX12_pointersTo_38 : decode cX12_pointersTo 38 = .ok (.iload_n 1, 1) := by decide +kernel
theorem dX12_pointersTo_39 : decode cX12_pointersTo 39 = .ok (.if_icmp .ne 15, 3) := by decide +kernel
theorem dX12_pointersTo_42 : decode cX12_pointersTo 42 = .ok (.aload_n 0, 1) := by decide +kernel
theorem dX12_pointersTo_43 : decode cX12_pointersTo 43 = .ok (.aload 4, 2) := by decide +kernel
theorem dX12_pointersTo_45 : decode cX12_pointersTo 45 = .ok (.invokevirtual 319, 3) := by decide +kernel
theorem dX12_pointersTo_48 : decode cX12_pointersTo 48 = .ok (.ifCond .ne 6, 3) := by decide +kernel
theorem dX12_pointersTo_51 : decode cX12_pointersTo 51 = .ok (.iinc 2 1, 3) := by decide +kernel
theorem dX12_pointersTo_54 : decode cX12_pointersTo 54 = .ok (.iinc 3 1, 3) := by decide +kernel
theorem dX12_pointersTo_57 : decode cX12_pointersTo 57 = .ok (.goto (-53), 3) := by decide +kernel
theorem dX12_pointersTo_60 : decode cX12_pointersTo 60 = .ok (.iload_n 2, 1) := by decide +kernel
theorem dX12_pointersTo_61 : decode cX12_pointersTo 61 = .ok (.ireturn, 1) := by decide +kernel
theorem dX12_unfinished_0 : decode cX12_unfinished 0 = .ok (.iconst 0, 1) := by decide +kernel
theorem dX12_unfinished_1 : decode cX12_unfinished 1 = .ok (.istore_n 2, 1) := by decide +kernel
theorem dX12_unfinished_2 : decode cX12_unfinished 2 = .ok (.iconst 0, 1) := by decide +kernel
theorem dX12_unfinished_3 : decode cX12_unfinished 3 = .ok (.istore_n 3, 1) := by decide +kernel
theorem dX12_unfinished_4 : decode cX12_unfinished 4 = .ok (.iload_n 3, 1) := by decide +kernel
theorem dX12_unfinished_5 : decode cX12_unfinished 5 = .ok (.aload_n 0, 1) := by decide +kernel
theorem dX12_unfinished_6 : decode cX12_unfinished 6 = .ok (.getfield 203, 3) := by decide +kernel
theorem dX12_unfinished_9 : decode cX12_unfinished 9 = .ok (.if_icmp .ge 33, 3) := by decide +kernel
theorem dX12_unfinished_12 : decode cX12_unfinished 12 = .ok (.aload_n 0, 1) := by decide +kernel
theorem dX12_unfinished_13 : decode cX12_unfinished 13 = .ok (.iload_n 3, 1) := by decide +kernel
theorem dX12_unfinished_14 : decode cX12_unfinished 14 = .ok (.invokevirtual 189, 3) := by decide +kernel
theorem dX12_unfinished_17 : decode cX12_unfinished 17 = .ok (.astore 4, 2) := by decide +kernel
theorem dX12_unfinished_19 : decode cX12_unfinished 19 = .ok (.aload 4, 2) := by decide +kernel
theorem dX12_unfinished_21 : decode cX12_unfinished 21 = .ok (.ifnull 15, 3) := by decide +kernel
theorem dX12_unfinished_24 : decode cX12_unfinished 24 = .ok (.aload 4, 2) := by decide +kernel
theorem dX12_unfinished_26 : decode cX12_unfinished 26 = .ok (.iload_n 1, 1) := by decide +kernel
theorem dX12_unfinished_27 : decode cX12_unfinished 27 = .ok (.invokevirtual 367, 3) := by decide +kernel
theorem dX12_unfinished_30 : decode cX12_unfinished 30 = .ok (.ifCond .eq 6, 3) := by decide +kernel
theorem dX12_unfinished_33 : decode cX12_unfinished 33 = .ok (.iinc 2 1, 3) := by decide +kernel
theorem dX12_unfinished_36 : decode cX12_unfinished 36 = .ok (.iinc 3 1, 3) := by decide +kernel
theorem dX12_unfinished_39 : decode cX12_unfinished 39 = .ok (.goto (-35), 3) := by decide +kernel
theorem dX12_unfinished_42 : decode cX12_unfinished 42 = .ok (.iload_n 2, 1) := by decide +kernel
theorem dX12_unfinished_43 : decode cX12_unfinished 43 = .ok (.ireturn, 1) := by decide +kernel
theorem dX12_line_0 : decode cX12_line 0 = .ok (.aload_n 0, 1) := by decide +kernel
theorem dX12_line_1 : decode cX12_line 1 = .ok (.iload_n 1, 1) := by decide +kernel
theorem dX12_line_2 : decode cX12_line 2 = .ok (.iconst 0, 1) := by decide +kernel
theorem dX12_line_3 : decode cX12_line 3 = .ok (.invokevirtual 243, 3) := by decide +kernel
theorem dX12_line_6 : decode cX12_line 6 = .ok (.astore 4, 2) := by decide +kernel
theorem dX12_line_8 : decode cX12_line 8 = .ok (.aload 4, 2) := by decide +kernel
theorem dX12_line_10 : decode cX12_line 10 = .ok (.ifnull 29, 3) := by decide +kernel
theorem dX12_line_13 : decode cX12_line 13 = .ok (.aload 4, 2) := by decide +kernel
theorem dX12_line_15 : decode cX12_line 15 = .ok (.invokevirtual 306, 3) := by decide +kernel
theorem dX12_line_18 : decode cX12_line 18 = .ok (.ifCond .ne 21, 3) := by decide +kernel
theorem dX12_line_21 : decode cX12_line 21 = .ok (.aload_n 0, 1) := by decide +kernel
theorem dX12_line_22 : decode cX12_line 22 = .ok (.aload 4, 2) := by decide +kernel
theorem dX12_line_24 : decode cX12_line 24 = .ok (.invokevirtual 319, 3) := by decide +kernel
theorem dX12_line_27 : decode cX12_line 27 = .ok (.ifCond .ne 12, 3) := by decide +kernel
theorem dX12_line_30 : decode cX12_line 30 = .ok (.aload_n 0, 1) := by decide +kernel
theorem dX12_line_31 : decode cX12_line 31 = .ok (.aload 4, 2) := by decide +kernel
theorem dX12_line_33 : decode cX12_line 33 = .ok (.invokevirtual 256, 3) := by decide +kernel
theorem dX12_line_36 : decode cX12_line 36 = .ok (.ifCond .eq 5, 3) := by decide +kernel
theorem dX12_line_39 : decode cX12_line 39 = .ok (.iconst (-1), 1) := by decide +kernel
theorem dX12_line_40 : decode cX12_line 40 = .ok (.ireturn, 1) := by decide +kernel
theorem dX12_line_41 : decode cX12_line 41 = .ok (.aload_n 0, 1) := by decide +kernel
theorem dX12_line_42 : decode cX12_line 42 = .ok (.aload 4, 2) := by decide +kernel
theorem dX12_line_44 : decode cX12_line 44 = .ok (.getfield 313, 3) := by decide +kernel
theorem dX12_line_47 : decode cX12_line 47 = .ok (.invokevirtual 316, 3) := by decide +kernel
theorem dX12_line_50 : decode cX12_line 50 = .ok (.astore 5, 2) := by decide +kernel
theorem dX12_line_52 : decode cX12_line 52 = .ok (.aload 5, 2) := by decide +kernel
theorem dX12_line_54 : decode cX12_line 54 = .ok (.ifnull 31, 3) := by decide +kernel
theorem dX12_line_57 : decode cX12_line 57 = .ok (.iload_n 3, 1) := by decide +kernel
theorem dX12_line_58 : decode cX12_line 58 = .ok (.ifCond .lt 27, 3) := by decide +kernel
theorem dX12_line_61 : decode cX12_line 61 = .ok (.iload_n 3, 1) := by decide +kernel
theorem dX12_line_62 : decode cX12_line 62 = .ok (.bipush 31, 2) := by decide +kernel
theorem dX12_line_64 : decode cX12_line 64 = .ok (.if_icmp .ge 21, 3) := by decide +kernel
theorem dX12_line_67 : decode cX12_line 67 = .ok (.aload_n 0, 1) := by decide +kernel
theorem dX12_line_68 : decode cX12_line 68 = .ok (.getfield 370, 3) := by decide +kernel
theorem dX12_line_71 : decode cX12_line 71 = .ok (.sipush 300, 3) := by decide +kernel
theorem dX12_line_74 : decode cX12_line 74 = .ok (.if_icmp .ge 11, 3) := by decide +kernel
theorem dX12_line_77 : decode cX12_line 77 = .ok (.aload_n 0, 1) := by decide +kernel
theorem dX12_line_78 : decode cX12_line 78 = .ok (.iload_n 2, 1) := by decide +kernel
theorem dX12_line_79 : decode cX12_line 79 = .ok (.invokevirtual 371, 3) := by decide +kernel
theorem dX12_line_82 : decode cX12_line 82 = .ok (.ifCond .ne 5, 3) := by decide +kernel
theorem dX12_line_85 : decode cX12_line 85 = .ok (.iconst (-1), 1) := by decide +kernel
theorem dX12_line_86 : decode cX12_line 86 = .ok (.ireturn, 1) := by decide +kernel
theorem dX12_line_87 : decode cX12_line 87 = .ok (.new 57, 3) := by decide +kernel
theorem dX12_line_90 : decode cX12_line 90 = .ok (.dup, 1) := by decide +kernel
theorem dX12_line_91 : decode cX12_line 91 = .ok (.iload_n 1, 1) := by decide +kernel
theorem dX12_line_92 : decode cX12_line 92 = .ok (.aload 4, 2) := by decide +kernel
theorem dX12_line_94 : decode cX12_line 94 = .ok (.getfield 313, 3) := by decide +kernel
theorem dX12_line_97 : decode cX12_line 97 = .ok (.iload_n 3, 1) := by decide +kernel
theorem dX12_line_98 : decode cX12_line 98 = .ok (.invokespecial 374, 3) := by decide +kernel
theorem dX12_line_101 : decode cX12_line 101 = .ok (.astore 6, 2) := by decide +kernel
theorem dX12_line_103 : decode cX12_line 103 = .ok (.aload_n 0, 1) := by decide +kernel
theorem dX12_line_104 : decode cX12_line 104 = .ok (.aload 6, 2) := by decide +kernel
theorem dX12_line_106 : decode cX12_line 106 = .ok (.iload_n 2, 1) := by decide +kernel
theorem dX12_line_107 : decode cX12_line 107 = .ok (.invokevirtual 375, 3) := by decide +kernel
theorem dX12_line_110 : decode cX12_line 110 = .ok (.aload 6, 2) := by decide +kernel
theorem dX12_line_112 : decode cX12_line 112 = .ok (.iconst 0, 1) := by decide +kernel
theorem dX12_line_113 : decode cX12_line 113 = .ok (.aload_n 0, 1) := by decide +kernel
theorem dX12_line_114 : decode cX12_line 114 = .ok (.bipush 11, 2) := by decide +kernel
theorem dX12_line_116 : decode cX12_line 116 = .ok (.aload 4, 2) := by decide +kernel
theorem dX12_line_118 : decode cX12_line 118 = .ok (.getfield 177, 3) := by decide +kernel
theorem dX12_line_121 : decode cX12_line 121 = .ok (.iadd, 1) := by decide +kernel
theorem dX12_line_122 : decode cX12_line 122 = .ok (.aload 4, 2) := by decide +kernel
theorem dX12_line_124 : decode cX12_line 124 = .ok (.aload 4, 2) := by decide +kernel
theorem dX12_line_126 : decode cX12_line 126 = .ok (.getfield 313, 3) := by decide +kernel
theorem dX12_line_129 : decode cX12_line 129 = .ok (.invokevirtual 328, 3) := by decide +kernel
theorem dX12_line_132 : decode cX12_line 132 = .ok (.invokestatic 379, 3) := by decide +kernel
theorem dX12_line_135 : decode cX12_line 135 = .ok (.putfield 382, 3) := by decide +kernel
theorem dX12_line_138 : decode cX12_line 138 = .ok (.aload 6, 2) := by decide +kernel
theorem dX12_line_140 : decode cX12_line 140 = .ok (.getfield 385, 3) := by decide +kernel
theorem dX12_line_143 : decode cX12_line 143 = .ok (.iconst (-1), 1) := by decide +kernel
theorem dX12_line_144 : decode cX12_line 144 = .ok (.if_icmp .eq 20, 3) := by decide +kernel
theorem dX12_line_147 : decode cX12_line 147 = .ok (.aload 4, 2) := by decide +kernel
theorem dX12_line_149 : decode cX12_line 149 = .ok (.dup, 1) := by decide +kernel
theorem dX12_line_150 : decode cX12_line 150 = .ok (.getfield 345, 3) := by decide +kernel
theorem dX12_line_153 : decode cX12_line 153 = .ok (.lconst 1, 1) := by decide +kernel
theorem dX12_line_154 : decode cX12_line 154 = .ok (.aload 6, 2) := by decide +kernel
theorem dX12_line_156 : decode cX12_line 156 = .ok (.getfield 385, 3) := by decide +kernel
theorem dX12_line_159 : decode cX12_line 159 = .ok (.lshl, 1) := by decide +kernel
theorem dX12_line_160 : decode cX12_line 160 = .ok (.lor, 1) := by decide +kernel
theorem dX12_line_161 : decode cX12_line 161 = .ok (.putfield 345, 3) := by decide +kernel
theorem dX12_line_164 : decode cX12_line 164 = .ok (.aload 4, 2) := by decide +kernel
theorem dX12_line_166 : decode cX12_line 166 = .ok (.dup, 1) := by decide +kernel
theorem dX12_line_167 : decode cX12_line 167 = .ok (.getfield 325, 3) := by decide +kernel
theorem dX12_line_170 : decode cX12_line 170 = .ok (.iconst 1, 1) := by decide +kernel
theorem dX12_line_171 : decode cX12_line 171 = .ok (.aload 4, 2) := by decide +kernel
theorem dX12_line_173 : decode cX12_line 173 = .ok (.getfield 313, 3) := by decide +kernel
theorem dX12_line_176 : decode cX12_line 176 = .ok (.ishl, 1) := by decide +kernel
theorem dX12_line_177 : decode cX12_line 177 = .ok (.ior, 1) := by decide +kernel
theorem dX12_line_178 : decode cX12_line 178 = .ok (.putfield 325, 3) := by decide +kernel
theorem dX12_line_181 : decode cX12_line 181 = .ok (.aload 4, 2) := by decide +kernel
theorem dX12_line_183 : decode cX12_line 183 = .ok (.dup, 1) := by decide +kernel
theorem dX12_line_184 : decode cX12_line 184 = .ok (.getfield 342, 3) := by decide +kernel
theorem dX12_line_187 : decode cX12_line 187 = .ok (.iconst 1, 1) := by decide +kernel
theorem dX12_line_188 : decode cX12_line 188 = .ok (.iadd, 1) := by decide +kernel
theorem dX12_line_189 : decode cX12_line 189 = .ok (.putfield 342, 3) := by decide +kernel
theorem dX12_line_192 : decode cX12_line 192 = .ok (.aload 5, 2) := by decide +kernel
theorem dX12_line_194 : decode cX12_line 194 = .ok (.dup, 1) := by decide +kernel
theorem dX12_line_195 : decode cX12_line 195 = .ok (.getfield 388, 3) := by decide +kernel
theorem dX12_line_198 : decode cX12_line 198 = .ok (.aload 6, 2) := by decide +kernel
theorem dX12_line_200 : decode cX12_line 200 = .ok (.getfield 382, 3) := by decide +kernel
theorem dX12_line_203 : decode cX12_line 203 = .ok (.iadd, 1) := by decide +kernel
theorem dX12_line_204 : decode cX12_line 204 = .ok (.putfield 388, 3) := by decide +kernel
theorem dX12_line_207 : decode cX12_line 207 = .ok (.aload_n 0, 1) := by decide +kernel
theorem dX12_line_208 : decode cX12_line 208 = .ok (.getfield 59, 3) := by decide +kernel
theorem dX12_line_211 : decode cX12_line 211 = .ok (.aload_n 0, 1) := by decide +kernel
theorem dX12_line_212 : decode cX12_line 212 = .ok (.getfield 370, 3) := by decide +kernel
theorem dX12_line_215 : decode cX12_line 215 = .ok (.aload 6, 2) := by decide +kernel
theorem dX12_line_217 : decode cX12_line 217 = .ok (.aastore, 1) := by decide +kernel
theorem dX12_line_218 : decode cX12_line 218 = .ok (.aload_n 0, 1) := by decide +kernel
theorem dX12_line_219 : decode cX12_line 219 = .ok (.dup, 1) := by decide +kernel
theorem dX12_line_220 : decode cX12_line 220 = .ok (.getfield 370, 3) := by decide +kernel
theorem dX12_line_223 : decode cX12_line 223 = .ok (.iconst 1, 1) := by decide +kernel
theorem dX12_line_224 : decode cX12_line 224 = .ok (.iadd, 1) := by decide +kernel
theorem dX12_line_225 : decode cX12_line 225 = .ok (.putfield 370, 3) := by decide +kernel
theorem dX12_line_228 : decode cX12_line 228 = .ok (.aload_n 0, 1) := by decide +kernel
theorem dX12_line_229 : decode cX12_line 229 = .ok (.getfield 370, 3) := by decide +kernel
theorem dX12_line_232 : decode cX12_line 232 = .ok (.iconst 1, 1) := by decide +kernel
theorem dX12_line_233 : decode cX12_line 233 = .ok (.isub, 1) := by decide +kernel
theorem dX12_line_234 : decode cX12_line 234 = .ok (.ireturn, 1) := by decide +kernel
theorem dX12_canLean_0 : decode cX12_canLean 0 = .ok (.iload_n 1, 1) := by decide +kernel
theorem dX12_canLean_1 : decode cX12_canLean 1 = .ok (.iconst (-1), 1) := by decide +kernel
theorem dX12_canLean_2 : decode cX12_canLean 2 = .ok (.if_icmp .eq 30, 3) := by decide +kernel
theorem dX12_canLean_5 : decode cX12_canLean 5 = .ok (.aload_n 0, 1) := by decide +kernel
theorem dX12_canLean_6 : decode cX12_canLean 6 = .ok (.getfield 66, 3) := by decide +kernel
theorem dX12_canLean_9 : decode cX12_canLean 9 = .ok (.iload_n 1, 1) := by decide +kernel
theorem dX12_canLean_10 : decode cX12_canLean 10 = .ok (.aload_n 0, 1) := by decide +kernel
theorem dX12_canLean_11 : decode cX12_canLean 11 = .ok (.getfield 133, 3) := by decide +kernel
theorem dX12_canLean_14 : decode cX12_canLean 14 = .ok (.invokevirtual 389, 3) := by decide +kernel
theorem dX12_canLean_17 : decode cX12_canLean 17 = .ok (.iconst (-1), 1) := by decide +kernel
theorem dX12_canLean_18 : decode cX12_canLean 18 = .ok (.if_icmp .ne 14, 3) := by decide +kernel
theorem dX12_canLean_21 : decode cX12_canLean 21 = .ok (.aload_n 0, 1) := by decide +kernel
theorem dX12_canLean_22 : decode cX12_canLean 22 = .ok (.iload_n 1, 1) := by decide +kernel
theorem dX12_canLean_23 : decode cX12_canLean 23 = .ok (.bipush 100, 2) := by decide +kernel
theorem dX12_canLean_25 : decode cX12_canLean 25 = .ok (.isub, 1) := by decide +kernel
theorem dX12_canLean_26 : decode cX12_canLean 26 = .ok (.invokevirtual 392, 3) := by decide +kernel
theorem dX12_canLean_29 : decode cX12_canLean 29 = .ok (.ifnull 7, 3) := by decide +kernel
theorem dX12_canLean_32 : decode cX12_canLean 32 = .ok (.iconst 1, 1) := by decide +kernel
theorem dX12_canLean_33 : decode cX12_canLean 33 = .ok (.goto 4, 3) := by decide +kernel
theorem dX12_canLean_36 : decode cX12_canLean 36 = .ok (.iconst 0, 1) := by decide +kernel
theorem dX12_canLean_37 : decode cX12_canLean 37 = .ok (.ireturn, 1) := by decide +kernel
theorem dX12_lean_0 : decode cX12_lean 0 = .ok (.aload_n 0, 1) := by decide +kernel
theorem dX12_lean_1 : decode cX12_lean 1 = .ok (.iload_n 2, 1) := by decide +kernel
theorem dX12_lean_2 : decode cX12_lean 2 = .ok (.bipush 100, 2) := by decide +kernel
theorem dX12_lean_4 : decode cX12_lean 4 = .ok (.isub, 1) := by decide +kernel
theorem dX12_lean_5 : decode cX12_lean 5 = .ok (.invokevirtual 392, 3) := by decide +kernel
theorem dX12_lean_8 : decode cX12_lean 8 = .ok (.astore_n 3, 1) := by decide +kernel
theorem dX12_lean_9 : decode cX12_lean 9 = .ok (.iload_n 2, 1) := by decide +kernel
theorem dX12_lean_10 : decode cX12_lean 10 = .ok (.iconst (-1), 1) := by decide +kernel
theorem dX12_lean_11 : decode cX12_lean 11 = .ok (.if_icmp .ne 11, 3) := by decide +kernel
theorem dX12_lean_14 : decode cX12_lean 14 = .ok (.aload_n 1, 1) := by decide +kernel
theorem dX12_lean_15 : decode cX12_lean 15 = .ok (.iconst (-1), 1) := by decide +kernel
theorem dX12_lean_16 : decode cX12_lean 16 = .ok (.putfield 396, 3) := by decide +kernel
theorem dX12_lean_19 : decode cX12_lean 19 = .ok (.goto 55, 3) := by decide +kernel
theorem dX12_lean_22 : decode cX12_lean 22 = .ok (.aload_n 3, 1) := by decide +kernel
theorem dX12_lean_23 : decode cX12_lean 23 = .ok (.ifnonnull 35, 3) := by decide +kernel
theorem dX12_lean_26 : decode cX12_lean 26 = .ok (.aload_n 1, 1) := by decide +kernel
theorem dX12_lean_27 : decode cX12_lean 27 = .ok (.iload_n 2, 1) := by decide +kernel
theorem dX12_lean_28 : decode cX12_lean 28 = .ok (.putfield 385, 3) := by decide +kernel
theorem dX12_lean_31 : decode cX12_lean 31 = .ok (.aload_n 1, 1) := by decide +kernel
theorem dX12_lean_32 : decode cX12_lean 32 = .ok (.aload_n 0, 1) := by decide +kernel
theorem dX12_lean_33 : decode cX12_lean 33 = .ok (.getfield 66, 3) := by decide +kernel
theorem dX12_lean_36 : decode cX12_lean 36 = .ok (.iload_n 2, 1) := by decide +kernel
theorem dX12_lean_37 : decode cX12_lean 37 = .ok (.aload_n 0, 1) := by decide +kernel
theorem dX12_lean_38 : decode cX12_lean 38 = .ok (.getfield 133, 3) := by decide +kernel
theorem dX12_lean_41 : decode cX12_lean 41 = .ok (.invokevirtual 389, 3) := by decide +kernel
theorem dX12_lean_44 : decode cX12_lean 44 = .ok (.putfield 399, 3) := by decide +kernel
theorem dX12_lean_47 : decode cX12_lean 47 = .ok (.aload_n 1, 1) := by decide +kernel
theorem dX12_lean_48 : decode cX12_lean 48 = .ok (.aload_n 0, 1) := by decide +kernel
theorem dX12_lean_49 : decode cX12_lean 49 = .ok (.getfield 370, 3) := by decide +kernel
theorem dX12_lean_52 : decode cX12_lean 52 = .ok (.putfield 396, 3) := by decide +kernel
theorem dX12_lean_55 : decode cX12_lean 55 = .ok (.goto 19, 3) := by decide +kernel
theorem dX12_lean_58 : decode cX12_lean 58 = .ok (.aload_n 1, 1) := by decide +kernel
theorem dX12_lean_59 : decode cX12_lean 59 = .ok (.iload_n 2, 1) := by decide +kernel
theorem dX12_lean_60 : decode cX12_lean 60 = .ok (.bipush 100, 2) := by decide +kernel
theorem dX12_lean_62 : decode cX12_lean 62 = .ok (.isub, 1) := by decide +kernel
theorem dX12_lean_63 : decode cX12_lean 63 = .ok (.putfield 402, 3) := by decide +kernel
theorem dX12_lean_66 : decode cX12_lean 66 = .ok (.aload_n 1, 1) := by decide +kernel
theorem dX12_lean_67 : decode cX12_lean 67 = .ok (.aload_n 3, 1) := by decide +kernel
theorem dX12_lean_68 : decode cX12_lean 68 = .ok (.getfield 396, 3) := by decide +kernel
theorem dX12_lean_71 : decode cX12_lean 71 = .ok (.putfield 396, 3) := by decide +kernel
theorem dX12_lean_74 : decode cX12_lean 74 = .ok (.return_, 1) := by decide +kernel
theorem dX12_lineAt_0 : decode cX12_lineAt 0 = .ok (.iload_n 1, 1) := by decide +kernel
theorem dX12_lineAt_1 : decode cX12_lineAt 1 = .ok (.ifCond .lt 27, 3) := by decide +kernel
theorem dX12_lineAt_4 : decode cX12_lineAt 4 = .ok (.iload_n 1, 1) := by decide +kernel
theorem dX12_lineAt_5 : decode cX12_lineAt 5 = .ok (.aload_n 0, 1) := by decide +kernel
theorem dX12_lineAt_6 : decode cX12_lineAt 6 = .ok (.getfield 370, 3) := by decide +kernel
theorem dX12_lineAt_9 : decode cX12_lineAt 9 = .ok (.if_icmp .ge 19, 3) := by decide +kernel
theorem dX12_lineAt_12 : decode cX12_lineAt 12 = .ok (.iload_n 1, 1) := by decide +kernel
theorem dX12_lineAt_13 : decode cX12_lineAt 13 = .ok (.sipush 300, 3) := by decide +kernel
theorem dX12_lineAt_16 : decode cX12_lineAt 16 = .ok (.if_icmp .ge 12, 3) := by decide +kernel
theorem dX12_lineAt_19 : decode cX12_lineAt 19 = .ok (.aload_n 0, 1) := by decide +kernel
theorem dX12_lineAt_20 : decode cX12_lineAt 20 = .ok (.getfield 59, 3) := by decide +kernel
theorem dX12_lineAt_23 : decode cX12_lineAt 23 = .ok (.iload_n 1, 1) := by decide +kernel
theorem dX12_lineAt_24 : decode cX12_lineAt 24 = .ok (.aaload, 1) := by decide +kernel
theorem dX12_lineAt_25 : decode cX12_lineAt 25 = .ok (.goto 4, 3) := by decide +kernel
theorem dX12_lineAt_28 : decode cX12_lineAt 28 = .ok (.aconst_null, 1) := by decide +kernel
theorem dX12_lineAt_29 : decode cX12_lineAt 29 = .ok (.areturn, 1) := by decide +kernel
theorem dX12_die_0 : decode cX12_die 0 = .ok (.aload_n 0, 1) := by decide +kernel
theorem dX12_die_1 : decode cX12_die 1 = .ok (.iload_n 1, 1) := by decide +kernel
theorem dX12_die_2 : decode cX12_die 2 = .ok (.invokevirtual 316, 3) := by decide +kernel
theorem dX12_die_5 : decode cX12_die 5 = .ok (.astore_n 2, 1) := by decide +kernel
theorem dX12_die_6 : decode cX12_die 6 = .ok (.aload_n 2, 1) := by decide +kernel
theorem dX12_die_7 : decode cX12_die 7 = .ok (.ifnonnull 5, 3) := by decide +kernel
theorem dX12_die_10 : decode cX12_die 10 = .ok (.iconst (-1), 1) := by decide +kernel
theorem dX12_die_11 : decode cX12_die 11 = .ok (.ireturn, 1) := by decide +kernel
theorem dX12_die_12 : decode cX12_die 12 = .ok (.aload_n 2, 1) := by decide +kernel
theorem dX12_die_13 : decode cX12_die 13 = .ok (.iconst 0, 1) := by decide +kernel
theorem dX12_die_14 : decode cX12_die 14 = .ok (.putfield 300, 3) := by decide +kernel
theorem dX12_die_17 : decode cX12_die 17 = .ok (.aload_n 0, 1) := by decide +kernel
theorem dX12_die_18 : decode cX12_die 18 = .ok (.iload_n 1, 1) := by decide +kernel
theorem dX12_die_19 : decode cX12_die 19 = .ok (.invokevirtual 364, 3) := by decide +kernel
theorem dX12_die_22 : decode cX12_die 22 = .ok (.ireturn, 1) := by decide +kernel
theorem dX12_hangs_0 : decode cX12_hangs 0 = .ok (.aload_n 0, 1) := by decide +kernel
theorem dX12_hangs_1 : decode cX12_hangs 1 = .ok (.aload_n 1, 1) := by decide +kernel
theorem dX12_hangs_2 : decode cX12_hangs 2 = .ok (.getfield 313, 3) := by decide +kernel
theorem dX12_hangs_5 : decode cX12_hangs 5 = .ok (.invokevirtual 296, 3) := by decide +kernel
theorem dX12_hangs_8 : decode cX12_hangs 8 = .ok (.astore_n 2, 1) := by decide +kernel
theorem dX12_hangs_9 : decode cX12_hangs 9 = .ok (.aload_n 2, 1) := by decide +kernel
theorem dX12_hangs_10 : decode cX12_hangs 10 = .ok (.ifnull 25, 3) := by decide +kernel
theorem dX12_hangs_13 : decode cX12_hangs 13 = .ok (.aload_n 2, 1) := by decide +kernel
theorem dX12_hangs_14 : decode cX12_hangs 14 = .ok (.getfield 300, 3) := by decide +kernel
theorem dX12_hangs_17 : decode cX12_hangs 17 = .ok (.ifCond .ne 18, 3) := by decide +kernel
theorem dX12_hangs_20 : decode cX12_hangs 20 = .ok (.aload_n 1, 1) := by decide +kernel
theorem dX12_hangs_21 : decode cX12_hangs 21 = .ok (.aload_n 1, 1) := by decide +kernel
theorem dX12_hangs_22 : decode cX12_hangs 22 = .ok (.getfield 313, 3) := by decide +kernel
theorem dX12_hangs_25 : decode cX12_hangs 25 = .ok (.invokevirtual 367, 3) := by decide +kernel
theorem dX12_hangs_28 : decode cX12_hangs 28 = .ok (.ifCond .eq 7, 3) := by decide +kernel
theorem dX12_hangs_31 : decode cX12_hangs 31 = .ok (.iconst 1, 1) := by decide +kernel
theorem dX12_hangs_32 : decode cX12_hangs 32 = .ok (.goto 4, 3) := by decide +kernel
theorem dX12_hangs_35 : decode cX12_hangs 35 = .ok (.iconst 0, 1) := by decide +kernel
theorem dX12_hangs_36 : decode cX12_hangs 36 = .ok (.ireturn, 1) := by decide +kernel
theorem dX12_takers_0 : decode cX12_takers 0 = .ok (.aload_n 0, 1) := by decide +kernel
theorem dX12_takers_1 : decode cX12_takers 1 = .ok (.iload_n 1, 1) := by decide +kernel
theorem dX12_takers_2 : decode cX12_takers 2 = .ok (.invokevirtual 189, 3) := by decide +kernel
theorem dX12_takers_5 : decode cX12_takers 5 = .ok (.astore_n 2, 1) := by decide +kernel
theorem dX12_takers_6 : decode cX12_takers 6 = .ok (.aload_n 2, 1) := by decide +kernel
theorem dX12_takers_7 : decode cX12_takers 7 = .ok (.ifnull 11, 3) := by decide +kernel
theorem dX12_takers_10 : decode cX12_takers 10 = .ok (.aload_n 0, 1) := by decide +kernel
theorem dX12_takers_11 : decode cX12_takers 11 = .ok (.aload_n 2, 1) := by decide +kernel
theorem dX12_takers_12 : decode cX12_takers 12 = .ok (.invokevirtual 405, 3) := by decide +kernel
theorem dX12_takers_15 : decode cX12_takers 15 = .ok (.ifCond .ne 5, 3) := by decide +kernel
theorem dX12_takers_18 : decode cX12_takers 18 = .ok (.iconst (-1), 1) := by decide +kernel
theorem dX12_takers_19 : decode cX12_takers 19 = .ok (.ireturn, 1) := by decide +kernel
theorem dX12_takers_20 : decode cX12_takers 20 = .ok (.iconst 0, 1) := by decide +kernel
theorem dX12_takers_21 : decode cX12_takers 21 = .ok (.istore_n 3, 1) := by decide +kernel
theorem dX12_takers_22 : decode cX12_takers 22 = .ok (.iconst 0, 1) := by decide +kernel
theorem dX12_takers_23 : decode cX12_takers 23 = .ok (.istore 4, 2) := by decide +kernel
theorem dX12_takers_25 : decode cX12_takers 25 = .ok (.iload 4, 2) := by decide +kernel
theorem dX12_takers_27 : decode cX12_takers 27 = .ok (.aload_n 0, 1) := by decide +kernel
theorem dX12_takers_28 : decode cX12_takers 28 = .ok (.getfield 292, 3) := by decide +kernel
theorem dX12_takers_31 : decode cX12_takers 31 = .ok (.if_icmp .ge 26, 3) := by decide +kernel
theorem dX12_takers_34 : decode cX12_takers 34 = .ok (.aload_n 0, 1) := by decide +kernel
theorem dX12_takers_35 : decode cX12_takers 35 = .ok (.aload_n 2, 1) := by decide +kernel
theorem dX12_takers_36 : decode cX12_takers 36 = .ok (.iload 4, 2) := by decide +kernel
theorem dX12_takers_38 : decode cX12_takers 38 = .ok (.invokevirtual 309, 3) := by decide +kernel
theorem dX12_takers_41 : decode cX12_takers 41 = .ok (.ifCond .eq 10, 3) := by decide +kernel
theorem dX12_takers_44 : decode cX12_takers 44 = .ok (.iload_n 3, 1) := by decide +kernel
theorem dX12_takers_45 : decode cX12_takers 45 = .ok (.iconst 1, 1) := by decide +kernel
theorem dX12_takers_46 : decode cX12_takers 46 = .ok (.iload 4, 2) := by decide +kernel
theorem dX12_takers_48 : decode cX12_takers 48 = .ok (.ishl, 1) := by decide +kernel
theorem dX12_takers_49 : decode cX12_takers 49 = .ok (.ior, 1) := by decide +kernel
theorem dX12_takers_50 : decode cX12_takers 50 = .ok (.istore_n 3, 1) := by decide +kernel
theorem dX12_takers_51 : decode cX12_takers 51 = .ok (.iinc 4 1, 3) := by decide +kernel
theorem dX12_takers_54 : decode cX12_takers 54 = .ok (.goto (-29), 3) := by decide +kernel
theorem dX12_takers_57 : decode cX12_takers 57 = .ok (.iload_n 3, 1) := by decide +kernel
theorem dX12_takers_58 : decode cX12_takers 58 = .ok (.ireturn, 1) := by decide +kernel
theorem dX12_tell_0 : decode cX12_tell 0 = .ok (.iload_n 1, 1) := by decide +kernel
theorem dX12_tell_1 : decode cX12_tell 1 = .ok (.ifCond .lt 28, 3) := by decide +kernel
theorem dX12_tell_4 : decode cX12_tell 4 = .ok (.iload_n 1, 1) := by decide +kernel
theorem dX12_tell_5 : decode cX12_tell 5 = .ok (.bipush 40, 2) := by decide +kernel
theorem dX12_tell_7 : decode cX12_tell 7 = .ok (.if_icmp .ge 22, 3) := by decide +kernel
theorem dX12_tell_10 : decode cX12_tell 10 = .ok (.iload_n 2, 1) := by decide +kernel
theorem dX12_tell_11 : decode cX12_tell 11 = .ok (.ifCond .lt 18, 3) := by decide +kernel
theorem dX12_tell_14 : decode cX12_tell 14 = .ok (.iload_n 2, 1) := by decide +kernel
theorem dX12_tell_15 : decode cX12_tell 15 = .ok (.sipush 999, 3) := by decide +kernel
theorem dX12_tell_18 : decode cX12_tell 18 = .ok (.if_icmp .gt 11, 3) := by decide +kernel
theorem dX12_tell_21 : decode cX12_tell 21 = .ok (.iload_n 3, 1) := by decide +kernel
theorem dX12_tell_22 : decode cX12_tell 22 = .ok (.ifCond .lt 7, 3) := by decide +kernel
theorem dX12_tell_25 : decode cX12_tell 25 = .ok (.iconst 1, 1) := by decide +kernel
theorem dX12_tell_26 : decode cX12_tell 26 = .ok (.goto 4, 3) := by decide +kernel
theorem dX12_tell_29 : decode cX12_tell 29 = .ok (.iconst 0, 1) := by decide +kernel
theorem dX12_tell_30 : decode cX12_tell 30 = .ok (.istore 4, 2) := by decide +kernel
theorem dX12_tell_32 : decode cX12_tell 32 = .ok (.iload 4, 2) := by decide +kernel
theorem dX12_tell_34 : decode cX12_tell 34 = .ok (.ifCond .eq 24, 3) := by decide +kernel
theorem dX12_tell_37 : decode cX12_tell 37 = .ok (.aload_n 0, 1) := by decide +kernel
theorem dX12_tell_38 : decode cX12_tell 38 = .ok (.getfield 66, 3) := by decide +kernel
theorem dX12_tell_41 : decode cX12_tell 41 = .ok (.iload_n 1, 1) := by decide +kernel
theorem dX12_tell_42 : decode cX12_tell 42 = .ok (.iload_n 2, 1) := by decide +kernel
theorem dX12_tell_43 : decode cX12_tell 43 = .ok (.iload_n 3, 1) := by decide +kernel
theorem dX12_tell_44 : decode cX12_tell 44 = .ok (.aload_n 0, 1) := by decide +kernel
theorem dX12_tell_45 : decode cX12_tell 45 = .ok (.getfield 133, 3) := by decide +kernel
theorem dX12_tell_48 : decode cX12_tell 48 = .ok (.invokevirtual 408, 3) := by decide +kernel
theorem dX12_tell_51 : decode cX12_tell 51 = .ok (.ifCond .eq 7, 3) := by decide +kernel
theorem dX12_tell_54 : decode cX12_tell 54 = .ok (.iconst 1, 1) := by decide +kernel
theorem dX12_tell_55 : decode cX12_tell 55 = .ok (.goto 4, 3) := by decide +kernel
theorem dX12_tell_58 : decode cX12_tell 58 = .ok (.iconst 0, 1) := by decide +kernel
theorem dX12_tell_59 : decode cX12_tell 59 = .ok (.ireturn, 1) := by decide +kernel
theorem dX12_known_0 : decode cX12_known 0 = .ok (.iload_n 2, 1) := by decide +kernel
theorem dX12_known_1 : decode cX12_known 1 = .ok (.ifCond .lt 10, 3) := by decide +kernel
theorem dX12_known_4 : decode cX12_known 4 = .ok (.iload_n 2, 1) := by decide +kernel
theorem dX12_known_5 : decode cX12_known 5 = .ok (.sipush 2000, 3) := by decide +kernel
theorem dX12_known_8 : decode cX12_known 8 = .ok (.if_icmp .le 5, 3) := by decide +kernel
theorem dX12_known_11 : decode cX12_known 11 = .ok (.iconst (-1), 1) := by decide +kernel
theorem dX12_known_12 : decode cX12_known 12 = .ok (.ireturn, 1) := by decide +kernel
theorem dX12_known_13 : decode cX12_known 13 = .ok (.iload_n 3, 1) := by decide +kernel
theorem dX12_known_14 : decode cX12_known 14 = .ok (.ifCond .ne 13, 3) := by decide +kernel
theorem dX12_known_17 : decode cX12_known 17 = .ok (.aload_n 0, 1) := by decide +kernel
theorem dX12_known_18 : decode cX12_known 18 = .ok (.getfield 66, 3) := by decide +kernel
theorem dX12_known_21 : decode cX12_known 21 = .ok (.iload_n 1, 1) := by decide +kernel
theorem dX12_known_22 : decode cX12_known 22 = .ok (.iload_n 2, 1) := by decide +kernel
theorem dX12_known_23 : decode cX12_known 23 = .ok (.invokevirtual 389, 3) := by decide +kernel
theorem dX12_known_26 : decode cX12_known 26 = .ok (.ireturn, 1) := by decide +kernel
theorem dX12_known_27 : decode cX12_known 27 = .ok (.iload_n 3, 1) := by decide +kernel
theorem dX12_known_28 : decode cX12_known 28 = .ok (.iconst 1, 1) := by decide +kernel
theorem dX12_known_29 : decode cX12_known 29 = .ok (.if_icmp .ne 15, 3) := by decide +kernel
theorem dX12_known_32 : decode cX12_known 32 = .ok (.aload_n 0, 1) := by decide +kernel
theorem dX12_known_33 : decode cX12_known 33 = .ok (.getfield 66, 3) := by decide +kernel
theorem dX12_known_36 : decode cX12_known 36 = .ok (.iload_n 1, 1) := by decide +kernel
theorem dX12_known_37 : decode cX12_known 37 = .ok (.iload_n 2, 1) := by decide +kernel
theorem dX12_known_38 : decode cX12_known 38 = .ok (.invokevirtual 412, 3) := by decide +kernel
theorem dX12_known_41 : decode cX12_known 41 = .ok (.goto 4, 3) := by decide +kernel
theorem dX12_known_44 : decode cX12_known 44 = .ok (.iconst (-1), 1) := by decide +kernel
theorem dX12_known_45 : decode cX12_known 45 = .ok (.ireturn, 1) := by decide +kernel
theorem dX12_stale_0 : decode cX12_stale 0 = .ok (.aload_n 0, 1) := by decide +kernel
theorem dX12_stale_1 : decode cX12_stale 1 = .ok (.iload_n 1, 1) := by decide +kernel
theorem dX12_stale_2 : decode cX12_stale 2 = .ok (.invokevirtual 392, 3) := by decide +kernel
theorem dX12_stale_5 : decode cX12_stale 5 = .ok (.astore_n 3, 1) := by decide +kernel
theorem dX12_stale_6 : decode cX12_stale 6 = .ok (.aload_n 3, 1) := by decide +kernel
theorem dX12_stale_7 : decode cX12_stale 7 = .ok (.ifnull 27, 3) := by decide +kernel
theorem dX12_stale_10 : decode cX12_stale 10 = .ok (.iload_n 2, 1) := by decide +kernel
theorem dX12_stale_11 : decode cX12_stale 11 = .ok (.ifCond .lt 23, 3) := by decide +kernel
theorem dX12_stale_14 : decode cX12_stale 14 = .ok (.iload_n 2, 1) := by decide +kernel
theorem dX12_stale_15 : decode cX12_stale 15 = .ok (.sipush 2000, 3) := by decide +kernel
theorem dX12_stale_18 : decode cX12_stale 18 = .ok (.if_icmp .gt 16, 3) := by decide +kernel
theorem dX12_stale_21 : decode cX12_stale 21 = .ok (.aload_n 0, 1) := by decide +kernel
theorem dX12_stale_22 : decode cX12_stale 22 = .ok (.aload_n 3, 1) := by decide +kernel
theorem dX12_stale_23 : decode cX12_stale 23 = .ok (.iload_n 2, 1) := by decide +kernel
theorem dX12_stale_24 : decode cX12_stale 24 = .ok (.invokevirtual 415, 3) := by decide +kernel
theorem dX12_stale_27 : decode cX12_stale 27 = .ok (.ifCond .eq 7, 3) := by decide +kernel
theorem dX12_stale_30 : decode cX12_stale 30 = .ok (.iconst 1, 1) := by decide +kernel
theorem dX12_stale_31 : decode cX12_stale 31 = .ok (.goto 4, 3) := by decide +kernel
theorem dX12_stale_34 : decode cX12_stale 34 = .ok (.iconst 0, 1) := by decide +kernel
theorem dX12_stale_35 : decode cX12_stale 35 = .ok (.ireturn, 1) := by decide +kernel
theorem dX12_isStale_0 : decode cX12_isStale 0 = .ok (.aload_n 0, 1) := by decide +kernel
theorem dX12_isStale_1 : decode cX12_isStale 1 = .ok (.aload_n 1, 1) := by decide +kernel
theorem dX12_isStale_2 : decode cX12_isStale 2 = .ok (.getfield 396, 3) := by decide +kernel
theorem dX12_isStale_5 : decode cX12_isStale 5 = .ok (.invokevirtual 392, 3) := by decide +kernel
theorem dX12_isStale_8 : decode cX12_isStale 8 = .ok (.astore_n 3, 1) := by decide +kernel
theorem dX12_isStale_9 : decode cX12_isStale 9 = .ok (.aload_n 3, 1) := by decide +kernel
theorem dX12_isStale_10 : decode cX12_isStale 10 = .ok (.ifnonnull 5, 3) := by decide +kernel
theorem dX12_isStale_13 : decode cX12_isStale 13 = .ok (.iconst 0, 1) := by decide +kernel
theorem dX12_isStale_14 : decode cX12_isStale 14 = .ok (.ireturn, 1) := by decide +kernel
theorem dX12_isStale_15 : decode cX12_isStale 15 = .ok (.aload_n 0, 1) := by decide +kernel
theorem dX12_isStale_16 : decode cX12_isStale 16 = .ok (.getfield 66, 3) := by decide +kernel
theorem dX12_isStale_19 : decode cX12_isStale 19 = .ok (.aload_n 3, 1) := by decide +kernel
theorem dX12_isStale_20 : decode cX12_isStale 20 = .ok (.getfield 385, 3) := by decide +kernel
theorem dX12_isStale_23 : decode cX12_isStale 23 = .ok (.iload_n 2, 1) := by decide +kernel
theorem dX12_isStale_24 : decode cX12_isStale 24 = .ok (.invokevirtual 389, 3) := by decide +kernel
theorem dX12_isStale_27 : decode cX12_isStale 27 = .ok (.aload_n 0, 1) := by decide +kernel
theorem dX12_isStale_28 : decode cX12_isStale 28 = .ok (.getfield 66, 3) := by decide +kernel
theorem dX12_isStale_31 : decode cX12_isStale 31 = .ok (.aload_n 1, 1) := by decide +kernel
theorem dX12_isStale_32 : decode cX12_isStale 32 = .ok (.getfield 396, 3) := by decide +kernel
theorem dX12_isStale_35 : decode cX12_isStale 35 = .ok (.aload_n 3, 1) := by decide +kernel
theorem dX12_isStale_36 : decode cX12_isStale 36 = .ok (.getfield 399, 3) := by decide +kernel
theorem dX12_isStale_39 : decode cX12_isStale 39 = .ok (.iload_n 2, 1) := by decide +kernel
theorem dX12_isStale_40 : decode cX12_isStale 40 = .ok (.invokevirtual 419, 3) := by decide +kernel
theorem dX12_isStale_43 : decode cX12_isStale 43 = .ok (.if_icmp .eq 7, 3) := by decide +kernel
theorem dX12_isStale_46 : decode cX12_isStale 46 = .ok (.iconst 1, 1) := by decide +kernel
theorem dX12_isStale_47 : decode cX12_isStale 47 = .ok (.goto 4, 3) := by decide +kernel
theorem dX12_isStale_50 : decode cX12_isStale 50 = .ok (.iconst 0, 1) := by decide +kernel
theorem dX12_isStale_51 : decode cX12_isStale 51 = .ok (.ireturn, 1) := by decide +kernel
theorem dX12_stales_0 : decode cX12_stales 0 = .ok (.aload_n 0, 1) := by decide +kernel
theorem dX12_stales_1 : decode cX12_stales 1 = .ok (.iload_n 1, 1) := by decide +kernel
theorem dX12_stales_2 : decode cX12_stales 2 = .ok (.invokevirtual 189, 3) := by decide +kernel
theorem dX12_stales_5 : decode cX12_stales 5 = .ok (.ifnonnull 5, 3) := by decide +kernel
theorem dX12_stales_8 : decode cX12_stales 8 = .ok (.iconst (-1), 1) := by decide +kernel
theorem dX12_stales_9 : decode cX12_stales 9 = .ok (.ireturn, 1) := by decide +kernel
theorem dX12_stales_10 : decode cX12_stales 10 = .ok (.iconst 0, 1) := by decide +kernel
theorem dX12_stales_11 : decode cX12_stales 11 = .ok (.istore_n 2, 1) := by decide +kernel
theorem dX12_stales_12 : decode cX12_stales 12 = .ok (.iconst 0, 1) := by decide +kernel
theorem dX12_stales_13 : decode cX12_stales 13 = .ok (.istore_n 3, 1) := by decide +kernel
theorem dX12_stales_14 : decode cX12_stales 14 = .ok (.iload_n 3, 1) := by decide +kernel
theorem dX12_stales_15 : decode cX12_stales 15 = .ok (.aload_n 0, 1) := by decide +kernel
theorem dX12_stales_16 : decode cX12_stales 16 = .ok (.getfield 370, 3) := by decide +kernel
theorem dX12_stales_19 : decode cX12_stales 19 = .ok (.if_icmp .ge 46, 3) := by decide +kernel
theorem dX12_stales_22 : decode cX12_stales 22 = .ok (.aload_n 0, 1) := by decide +kernel
theorem dX12_stales_23 : decode cX12_stales 23 = .ok (.iload_n 3, 1) := by decide +kernel
theorem dX12_stales_24 : decode cX12_stales 24 = .ok (.invokevirtual 392, 3) := by decide +kernel
theorem dX12_stales_27 : decode cX12_stales 27 = .ok (.astore 4, 2) := by decide +kernel
theorem dX12_stales_29 : decode cX12_stales 29 = .ok (.aload 4, 2) := by decide +kernel
theorem dX12_stales_31 : decode cX12_stales 31 = .ok (.ifnull 28, 3) := by decide +kernel
theorem dX12_stales_34 : decode cX12_stales 34 = .ok (.aload 4, 2) := by decide +kernel
theorem dX12_stales_36 : decode cX12_stales 36 = .ok (.getfield 422, 3) := by decide +kernel
theorem dX12_stales_39 : decode cX12_stales 39 = .ok (.iload_n 1, 1) := by decide +kernel
theorem dX12_stales_40 : decode cX12_stales 40 = .ok (.if_icmp .ne 19, 3) := by decide +kernel
theorem dX12_stales_43 : decode cX12_stales 43 = .ok (.aload_n 0, 1) := by decide +kernel
theorem dX12_stales_44 : decode cX12_stales 44 = .ok (.aload 4, 2) := by decide +kernel
theorem dX12_stales_46 : decode cX12_stales 46 = .ok (.aload_n 0, 1) := by decide +kernel
theorem dX12_stales_47 : decode cX12_stales 47 = .ok (.getfield 133, 3) := by decide +kernel
theorem dX12_stales_50 : decode cX12_stales 50 = .ok (.invokevirtual 415, 3) := by decide +kernel
theorem dX12_stales_53 : decode cX12_stales 53 = .ok (.ifCond .eq 6, 3) := by decide +kernel
theorem dX12_stales_56 : decode cX12_stales 56 = .ok (.iinc 2 1, 3) := by decide +kernel
theorem dX12_stales_59 : decode cX12_stales 59 = .ok (.iinc 3 1, 3) := by decide +kernel
theorem dX12_stales_62 : decode cX12_stales 62 = .ok (.goto (-48), 3) := by decide +kernel
theorem dX12_stales_65 : decode cX12_stales 65 = .ok (.iload_n 2, 1) := by decide +kernel
theorem dX12_stales_66 : decode cX12_stales 66 = .ok (.ireturn, 1) := by decide +kernel
theorem dX12_isSetLine_0 : decode cX12_isSetLine 0 = .ok (.aload_n 0, 1) := by decide +kernel
theorem dX12_isSetLine_1 : decode cX12_isSetLine 1 = .ok (.aload_n 1, 1) := by decide +kernel
theorem dX12_isSetLine_2 : decode cX12_isSetLine 2 = .ok (.getfield 422, 3) := by decide +kernel
theorem dX12_isSetLine_5 : decode cX12_isSetLine 5 = .ok (.invokevirtual 189, 3) := by decide +kernel
theorem dX12_isSetLine_8 : decode cX12_isSetLine 8 = .ok (.astore_n 2, 1) := by decide +kernel
theorem dX12_isSetLine_9 : decode cX12_isSetLine 9 = .ok (.aload_n 2, 1) := by decide +kernel
theorem dX12_isSetLine_10 : decode cX12_isSetLine 10 = .ok (.ifnull 15, 3) := by decide +kernel
theorem dX12_isSetLine_13 : decode cX12_isSetLine 13 = .ok (.aload_n 2, 1) := by decide +kernel
theorem dX12_isSetLine_14 : decode cX12_isSetLine 14 = .ok (.getfield 247, 3) := by decide +kernel
theorem dX12_isSetLine_17 : decode cX12_isSetLine 17 = .ok (.iconst (-1), 1) := by decide +kernel
theorem dX12_isSetLine_18 : decode cX12_isSetLine 18 = .ok (.if_icmp .eq 7, 3) := by decide +kernel
theorem dX12_isSetLine_21 : decode cX12_isSetLine 21 = .ok (.iconst 1, 1) := by decide +kernel
theorem dX12_isSetLine_22 : decode cX12_isSetLine 22 = .ok (.goto 4, 3) := by decide +kernel
theorem dX12_isSetLine_25 : decode cX12_isSetLine 25 = .ok (.iconst 0, 1) := by decide +kernel
theorem dX12_isSetLine_26 : decode cX12_isSetLine 26 = .ok (.ireturn, 1) := by decide +kernel
theorem dX12_mend_0 : decode cX12_mend 0 = .ok (.aload_n 0, 1) := by decide +kernel
theorem dX12_mend_1 : decode cX12_mend 1 = .ok (.iload_n 1, 1) := by decide +kernel
theorem dX12_mend_2 : decode cX12_mend 2 = .ok (.invokevirtual 392, 3) := by decide +kernel
theorem dX12_mend_5 : decode cX12_mend 5 = .ok (.astore_n 2, 1) := by decide +kernel
theorem dX12_mend_6 : decode cX12_mend 6 = .ok (.aload_n 2, 1) := by decide +kernel
theorem dX12_mend_7 : decode cX12_mend 7 = .ok (.ifnull 19, 3) := by decide +kernel
theorem dX12_mend_10 : decode cX12_mend 10 = .ok (.aload_n 2, 1) := by decide +kernel
theorem dX12_mend_11 : decode cX12_mend 11 = .ok (.getfield 385, 3) := by decide +kernel
theorem dX12_mend_14 : decode cX12_mend 14 = .ok (.iconst (-1), 1) := by decide +kernel
theorem dX12_mend_15 : decode cX12_mend 15 = .ok (.if_icmp .eq 11, 3) := by decide +kernel
theorem dX12_mend_18 : decode cX12_mend 18 = .ok (.aload_n 0, 1) := by decide +kernel
theorem dX12_mend_19 : decode cX12_mend 19 = .ok (.aload_n 2, 1) := by decide +kernel
theorem dX12_mend_20 : decode cX12_mend 20 = .ok (.invokevirtual 425, 3) := by decide +kernel
theorem dX12_mend_23 : decode cX12_mend 23 = .ok (.ifCond .eq 5, 3) := by decide +kernel
theorem dX12_mend_26 : decode cX12_mend 26 = .ok (.iconst (-1), 1) := by decide +kernel
theorem dX12_mend_27 : decode cX12_mend 27 = .ok (.ireturn, 1) := by decide +kernel
theorem dX12_mend_28 : decode cX12_mend 28 = .ok (.aload_n 2, 1) := by decide +kernel
theorem dX12_mend_29 : decode cX12_mend 29 = .ok (.aload_n 0, 1) := by decide +kernel
theorem dX12_mend_30 : decode cX12_mend 30 = .ok (.getfield 66, 3) := by decide +kernel
theorem dX12_mend_33 : decode cX12_mend 33 = .ok (.aload_n 2, 1) := by decide +kernel
theorem dX12_mend_34 : decode cX12_mend 34 = .ok (.getfield 385, 3) := by decide +kernel
theorem dX12_mend_37 : decode cX12_mend 37 = .ok (.aload_n 0, 1) := by decide +kernel
theorem dX12_mend_38 : decode cX12_mend 38 = .ok (.getfield 133, 3) := by decide +kernel
theorem dX12_mend_41 : decode cX12_mend 41 = .ok (.invokevirtual 389, 3) := by decide +kernel
theorem dX12_mend_44 : decode cX12_mend 44 = .ok (.putfield 399, 3) := by decide +kernel
theorem dX12_mend_47 : decode cX12_mend 47 = .ok (.aload_n 2, 1) := by decide +kernel
theorem dX12_mend_48 : decode cX12_mend 48 = .ok (.getfield 399, 3) := by decide +kernel
theorem dX12_mend_51 : decode cX12_mend 51 = .ok (.ireturn, 1) := by decide +kernel
theorem dX12_erratum_0 : decode cX12_erratum 0 = .ok (.aload_n 0, 1) := by decide +kernel
theorem dX12_erratum_1 : decode cX12_erratum 1 = .ok (.iload_n 1, 1) := by decide +kernel
theorem dX12_erratum_2 : decode cX12_erratum 2 = .ok (.invokevirtual 392, 3) := by decide +kernel
theorem dX12_erratum_5 : decode cX12_erratum 5 = .ok (.astore 4, 2) := by decide +kernel
theorem dX12_erratum_7 : decode cX12_erratum 7 = .ok (.aload 4, 2) := by decide +kernel
theorem dX12_erratum_9 : decode cX12_erratum 9 = .ok (.ifnull 21, 3) := by decide +kernel
theorem dX12_erratum_12 : decode cX12_erratum 12 = .ok (.aload 4, 2) := by decide +kernel
theorem dX12_erratum_14 : decode cX12_erratum 14 = .ok (.getfield 385, 3) := by decide +kernel
theorem dX12_erratum_17 : decode cX12_erratum 17 = .ok (.iconst (-1), 1) := by decide +kernel
theorem dX12_erratum_18 : decode cX12_erratum 18 = .ok (.if_icmp .eq 12, 3) := by decide +kernel
theorem dX12_erratum_21 : decode cX12_erratum 21 = .ok (.aload_n 0, 1) := by decide +kernel
theorem dX12_erratum_22 : decode cX12_erratum 22 = .ok (.aload 4, 2) := by decide +kernel
theorem dX12_erratum_24 : decode cX12_erratum 24 = .ok (.invokevirtual 425, 3) := by decide +kernel
theorem dX12_erratum_27 : decode cX12_erratum 27 = .ok (.ifCond .ne 5, 3) := by decide +kernel
theorem dX12_erratum_30 : decode cX12_erratum 30 = .ok (.iconst (-1), 1) := by decide +kernel
theorem dX12_erratum_31 : decode cX12_erratum 31 = .ok (.ireturn, 1) := by decide +kernel
theorem dX12_erratum_32 : decode cX12_erratum 32 = .ok (.iload_n 2, 1) := by decide +kernel
theorem dX12_erratum_33 : decode cX12_erratum 33 = .ok (.ifCond .lt 21, 3) := by decide +kernel
theorem dX12_erratum_36 : decode cX12_erratum 36 = .ok (.iload_n 2, 1) := by decide +kernel
theorem dX12_erratum_37 : decode cX12_erratum 37 = .ok (.sipush 999, 3) := by decide +kernel
theorem dX12_erratum_40 : decode cX12_erratum 40 = .ok (.if_icmp .gt 14, 3) := by decide +kernel
theorem dX12_erratum_43 : decode cX12_erratum 43 = .ok (.iload_n 3, 1) := by decide +kernel
theorem dX12_erratum_44 : decode cX12_erratum 44 = .ok (.ifCond .lt 10, 3) := by decide +kernel
theorem dX12_erratum_47 : decode cX12_erratum 47 = .ok (.iload_n 3, 1) := by decide +kernel
theorem dX12_erratum_48 : decode cX12_erratum 48 = .ok (.sipush 999, 3) := by decide +kernel
theorem dX12_erratum_51 : decode cX12_erratum 51 = .ok (.if_icmp .le 5, 3) := by decide +kernel
theorem dX12_erratum_54 : decode cX12_erratum 54 = .ok (.iconst (-1), 1) := by decide +kernel
theorem dX12_erratum_55 : decode cX12_erratum 55 = .ok (.ireturn, 1) := by decide +kernel
theorem dX12_erratum_56 : decode cX12_erratum 56 = .ok (.aload_n 0, 1) := by decide +kernel
theorem dX12_erratum_57 : decode cX12_erratum 57 = .ok (.getfield 66, 3) := by decide +kernel
theorem dX12_erratum_60 : decode cX12_erratum 60 = .ok (.iload_n 1, 1) := by decide +kernel
theorem dX12_erratum_61 : decode cX12_erratum 61 = .ok (.aload 4, 2) := by decide +kernel
theorem dX12_erratum_63 : decode cX12_erratum 63 = .ok (.getfield 399, 3) := by decide +kernel
theorem dX12_erratum_66 : decode cX12_erratum 66 = .ok (.aload_n 0, 1) := by decide +kernel
theorem dX12_erratum_67 : decode cX12_erratum 67 = .ok (.getfield 133, 3) := by decide +kernel
theorem dX12_erratum_70 : decode cX12_erratum 70 = .ok (.invokevirtual 419, 3) := by decide +kernel
theorem dX12_erratum_73 : decode cX12_erratum 73 = .ok (.iload_n 2, 1) := by decide +kernel
theorem dX12_erratum_74 : decode cX12_erratum 74 = .ok (.if_icmp .ne 7, 3) := by decide +kernel
theorem dX12_erratum_77 : decode cX12_erratum 77 = .ok (.iconst 1, 1) := by decide +kernel
theorem dX12_erratum_78 : decode cX12_erratum 78 = .ok (.goto 4, 3) := by decide +kernel
theorem dX12_erratum_81 : decode cX12_erratum 81 = .ok (.iconst 0, 1) := by decide +kernel
theorem dX12_erratum_82 : decode cX12_erratum 82 = .ok (.istore 5, 2) := by decide +kernel
theorem dX12_erratum_84 : decode cX12_erratum 84 = .ok (.aload_n 0, 1) := by decide +kernel
theorem dX12_erratum_85 : decode cX12_erratum 85 = .ok (.getfield 66, 3) := by decide +kernel
theorem dX12_erratum_88 : decode cX12_erratum 88 = .ok (.iload_n 1, 1) := by decide +kernel
theorem dX12_erratum_89 : decode cX12_erratum 89 = .ok (.iload_n 2, 1) := by decide +kernel
theorem dX12_erratum_90 : decode cX12_erratum 90 = .ok (.iload_n 3, 1) := by decide +kernel
theorem dX12_erratum_91 : decode cX12_erratum 91 = .ok (.aload_n 0, 1) := by decide +kernel
theorem dX12_erratum_92 : decode cX12_erratum 92 = .ok (.getfield 133, 3) := by decide +kernel
theorem dX12_erratum_95 : decode cX12_erratum 95 = .ok (.iload 5, 2) := by decide +kernel
theorem dX12_erratum_97 : decode cX12_erratum 97 = .ok (.ifCond .ne 7, 3) := by decide +kernel
theorem dX12_erratum_100 : decode cX12_erratum 100 = .ok (.iconst 1, 1) := by decide +kernel
theorem dX12_erratum_101 : decode cX12_erratum 101 = .ok (.goto 4, 3) := by decide +kernel
theorem dX12_erratum_104 : decode cX12_erratum 104 = .ok (.iconst 0, 1) := by decide +kernel
theorem dX12_erratum_105 : decode cX12_erratum 105 = .ok (.invokevirtual 429, 3) := by decide +kernel
theorem dX12_erratum_108 : decode cX12_erratum 108 = .ok (.ireturn, 1) := by decide +kernel
theorem dX12_misses_0 : decode cX12_misses 0 = .ok (.aload_n 0, 1) := by decide +kernel
theorem dX12_misses_1 : decode cX12_misses 1 = .ok (.getfield 66, 3) := by decide +kernel
theorem dX12_misses_4 : decode cX12_misses 4 = .ok (.iload_n 1, 1) := by decide +kernel
theorem dX12_misses_5 : decode cX12_misses 5 = .ok (.invokevirtual 433, 3) := by decide +kernel
theorem dX12_misses_8 : decode cX12_misses 8 = .ok (.ireturn, 1) := by decide +kernel
theorem dX12_told_0 : decode cX12_told 0 = .ok (.aload_n 0, 1) := by decide +kernel
theorem dX12_told_1 : decode cX12_told 1 = .ok (.iload_n 1, 1) := by decide +kernel
theorem dX12_told_2 : decode cX12_told 2 = .ok (.invokevirtual 392, 3) := by decide +kernel
theorem dX12_told_5 : decode cX12_told 5 = .ok (.astore_n 3, 1) := by decide +kernel
theorem dX12_told_6 : decode cX12_told 6 = .ok (.aload_n 3, 1) := by decide +kernel
theorem dX12_told_7 : decode cX12_told 7 = .ok (.ifnonnull 5, 3) := by decide +kernel
theorem dX12_told_10 : decode cX12_told 10 = .ok (.iconst (-1), 1) := by decide +kernel
theorem dX12_told_11 : decode cX12_told 11 = .ok (.ireturn, 1) := by decide +kernel
theorem dX12_told_12 : decode cX12_told 12 = .ok (.iload_n 2, 1) := by decide +kernel
theorem dX12_told_13 : decode cX12_told 13 = .ok (.tableswitch 115 0 7 #[47, 52, 81, 86, 91, 96, 105, 110], 47) := by decide +kernel
theorem dX12_told_60 : decode cX12_told 60 = .ok (.aload_n 3, 1) := by decide +kernel
theorem dX12_told_61 : decode cX12_told 61 = .ok (.getfield 399, 3) := by decide +kernel
theorem dX12_told_64 : decode cX12_told 64 = .ok (.ireturn, 1) := by decide +kernel
theorem dX12_told_65 : decode cX12_told 65 = .ok (.aload_n 3, 1) := by decide +kernel
theorem dX12_told_66 : decode cX12_told 66 = .ok (.getfield 385, 3) := by decide +kernel
theorem dX12_told_69 : decode cX12_told 69 = .ok (.iconst (-1), 1) := by decide +kernel
theorem dX12_told_70 : decode cX12_told 70 = .ok (.if_icmp .ne 7, 3) := by decide +kernel
theorem dX12_told_73 : decode cX12_told 73 = .ok (.iconst (-1), 1) := by decide +kernel
theorem dX12_told_74 : decode cX12_told 74 = .ok (.goto 19, 3) := by decide +kernel
theorem dX12_told_77 : decode cX12_told 77 = .ok (.aload_n 0, 1) := by decide +kernel
theorem dX12_told_78 : decode cX12_told 78 = .ok (.getfield 66, 3) := by decide +kernel
theorem dX12_told_81 : decode cX12_told 81 = .ok (.iload_n 1, 1) := by decide +kernel
theorem dX12_told_82 : decode cX12_told 82 = .ok (.aload_n 3, 1) := by decide +kernel
theorem dX12_told_83 : decode cX12_told 83 = .ok (.getfield 399, 3) := by decide +kernel
theorem dX12_told_86 : decode cX12_told 86 = .ok (.aload_n 0, 1) := by decide +kernel
theorem dX12_told_87 : decode cX12_told 87 = .ok (.getfield 133, 3) := by decide +kernel
theorem dX12_told_90 : decode cX12_told 90 = .ok (.invokevirtual 419, 3) := by decide +kernel
theorem dX12_told_93 : decode cX12_told 93 = .ok (.ireturn, 1) := by decide +kernel
theorem dX12_told_94 : decode cX12_told 94 = .ok (.aload_n 3, 1) := by decide +kernel
theorem dX12_told_95 : decode cX12_told 95 = .ok (.getfield 385, 3) := by decide +kernel
theorem dX12_told_98 : decode cX12_told 98 = .ok (.ireturn, 1) := by decide +kernel
theorem dX12_told_99 : decode cX12_told 99 = .ok (.aload_n 3, 1) := by decide +kernel
theorem dX12_told_100 : decode cX12_told 100 = .ok (.getfield 402, 3) := by decide +kernel
theorem dX12_told_103 : decode cX12_told 103 = .ok (.ireturn, 1) := by decide +kernel
theorem dX12_told_104 : decode cX12_told 104 = .ok (.aload_n 3, 1) := by decide +kernel
theorem dX12_told_105 : decode cX12_told 105 = .ok (.getfield 422, 3) := by decide +kernel
theorem dX12_told_108 : decode cX12_told 108 = .ok (.ireturn, 1) := by decide +kernel
theorem dX12_told_109 : decode cX12_told 109 = .ok (.aload_n 0, 1) := by decide +kernel
theorem dX12_told_110 : decode cX12_told 110 = .ok (.aload_n 3, 1) := by decide +kernel
theorem dX12_told_111 : decode cX12_told 111 = .ok (.getfield 436, 3) := by decide +kernel
theorem dX12_told_114 : decode cX12_told 114 = .ok (.invokevirtual 439, 3) := by decide +kernel
theorem dX12_told_117 : decode cX12_told 117 = .ok (.ireturn, 1) := by decide +kernel
theorem dX12_told_118 : decode cX12_told 118 = .ok (.aload_n 3, 1) := by decide +kernel
theorem dX12_told_119 : decode cX12_told 119 = .ok (.getfield 382, 3) := by decide +kernel
theorem dX12_told_122 : decode cX12_told 122 = .ok (.ireturn, 1) := by decide +kernel
theorem dX12_told_123 : decode cX12_told 123 = .ok (.aload_n 3, 1) := by decide +kernel
theorem dX12_told_124 : decode cX12_told 124 = .ok (.getfield 442, 3) := by decide +kernel
theorem dX12_told_127 : decode cX12_told 127 = .ok (.ireturn, 1) := by decide +kernel
theorem dX12_told_128 : decode cX12_told 128 = .ok (.iconst (-1), 1) := by decide +kernel
theorem dX12_told_129 : decode cX12_told 129 = .ok (.ireturn, 1) := by decide +kernel
theorem dX12_set_0 : decode cX12_set 0 = .ok (.aload_n 0, 1) := by decide +kernel
theorem dX12_set_1 : decode cX12_set 1 = .ok (.iload_n 1, 1) := by decide +kernel
theorem dX12_set_2 : decode cX12_set 2 = .ok (.invokevirtual 166, 3) := by decide +kernel
theorem dX12_set_5 : decode cX12_set 5 = .ok (.astore_n 2, 1) := by decide +kernel
theorem dX12_set_6 : decode cX12_set 6 = .ok (.aload_n 2, 1) := by decide +kernel
theorem dX12_set_7 : decode cX12_set 7 = .ok (.ifnull 11, 3) := by decide +kernel
theorem dX12_set_10 : decode cX12_set 10 = .ok (.aload_n 2, 1) := by decide +kernel
theorem dX12_set_11 : decode cX12_set 11 = .ok (.getfield 170, 3) := by decide +kernel
theorem dX12_set_14 : decode cX12_set 14 = .ok (.iconst (-1), 1) := by decide +kernel
theorem dX12_set_15 : decode cX12_set 15 = .ok (.if_icmp .eq 5, 3) := by decide +kernel
theorem dX12_set_18 : decode cX12_set 18 = .ok (.iconst (-1), 1) := by decide +kernel
theorem dX12_set_19 : decode cX12_set 19 = .ok (.ireturn, 1) := by decide +kernel
theorem dX12_set_20 : decode cX12_set 20 = .ok (.aload_n 0, 1) := by decide +kernel
theorem dX12_set_21 : decode cX12_set 21 = .ok (.iload_n 1, 1) := by decide +kernel
theorem dX12_set_22 : decode cX12_set 22 = .ok (.invokevirtual 265, 3) := by decide +kernel
theorem dX12_set_25 : decode cX12_set 25 = .ok (.aload_n 0, 1) := by decide +kernel
theorem dX12_set_26 : decode cX12_set 26 = .ok (.invokevirtual 443, 3) := by decide +kernel
theorem dX12_set_29 : decode cX12_set 29 = .ok (.ifCond .ne 5, 3) := by decide +kernel
theorem dX12_set_32 : decode cX12_set 32 = .ok (.iconst (-1), 1) := by decide +kernel
theorem dX12_set_33 : decode cX12_set 33 = .ok (.ireturn, 1) := by decide +kernel
theorem dX12_set_34 : decode cX12_set 34 = .ok (.aload_n 0, 1) := by decide +kernel
theorem dX12_set_35 : decode cX12_set 35 = .ok (.aload_n 2, 1) := by decide +kernel
theorem dX12_set_36 : decode cX12_set 36 = .ok (.iload_n 1, 1) := by decide +kernel
theorem dX12_set_37 : decode cX12_set 37 = .ok (.invokevirtual 446, 3) := by decide +kernel
theorem dX12_set_40 : decode cX12_set 40 = .ok (.aload_n 2, 1) := by decide +kernel
theorem dX12_set_41 : decode cX12_set 41 = .ok (.getfield 450, 3) := by decide +kernel
theorem dX12_set_44 : decode cX12_set 44 = .ok (.bipush 40, 2) := by decide +kernel
theorem dX12_set_46 : decode cX12_set 46 = .ok (.iadd, 1) := by decide +kernel
theorem dX12_set_47 : decode cX12_set 47 = .ok (.iconst 1, 1) := by decide +kernel
theorem dX12_set_48 : decode cX12_set 48 = .ok (.isub, 1) := by decide +kernel
theorem dX12_set_49 : decode cX12_set 49 = .ok (.bipush 40, 2) := by decide +kernel
theorem dX12_set_51 : decode cX12_set 51 = .ok (.idiv, 1) := by decide +kernel
theorem dX12_set_52 : decode cX12_set 52 = .ok (.ireturn, 1) := by decide +kernel
theorem dX12_rowMayBeSet_0 : decode cX12_rowMayBeSet 0 = .ok (.iconst 0, 1) := by decide +kernel
theorem dX12_rowMayBeSet_1 : decode cX12_rowMayBeSet 1 = .ok (.istore_n 1, 1) := by decide +kernel
theorem dX12_rowMayBeSet_2 : decode cX12_rowMayBeSet 2 = .ok (.iload_n 1, 1) := by decide +kernel
theorem dX12_rowMayBeSet_3 : decode cX12_rowMayBeSet 3 = .ok (.aload_n 0, 1) := by decide +kernel
theorem dX12_rowMayBeSet_4 : decode cX12_rowMayBeSet 4 = .ok (.getfield 268, 3) := by decide +kernel
theorem dX12_rowMayBeSet_7 : decode cX12_rowMayBeSet 7 = .ok (.if_icmp .ge 59, 3) := by decide +kernel
theorem dX12_rowMayBeSet_10 : decode cX12_rowMayBeSet 10 = .ok (.aload_n 0, 1) := by decide +kernel
theorem dX12_rowMayBeSet_11 : decode cX12_rowMayBeSet 11 = .ok (.iload_n 1, 1) := by decide +kernel
theorem dX12_rowMayBeSet_12 : decode cX12_rowMayBeSet 12 = .ok (.invokevirtual 452, 3) := by decide +kernel
theorem dX12_rowMayBeSet_15 : decode cX12_rowMayBeSet 15 = .ok (.astore_n 2, 1) := by decide +kernel
theorem dX12_rowMayBeSet_16 : decode cX12_rowMayBeSet 16 = .ok (.aload_n 2, 1) := by decide +kernel
theorem dX12_rowMayBeSet_17 : decode cX12_rowMayBeSet 17 = .ok (.ifnull 43, 3) := by decide +kernel
theorem dX12_rowMayBeSet_20 : decode cX12_rowMayBeSet 20 = .ok (.aload_n 2, 1) := by decide +kernel
theorem dX12_rowMayBeSet_21 : decode cX12_rowMayBeSet 21 = .ok (.getfield 240, 3) := by decide +kernel
theorem dX12_rowMayBeSet_24 : decode cX12_rowMayBeSet 24 = .ok (.ifCond .ne 36, 3) := by decide +kernel
theorem dX12_rowMayBeSet_27 : decode cX12_rowMayBeSet 27 = .ok (.aload_n 0, 1) := by decide +kernel
theorem dX12_rowMayBeSet_28 : decode cX12_rowMayBeSet 28 = .ok (.aload_n 2, 1) := by decide +kernel
theorem dX12_rowMayBeSet_29 : decode cX12_rowMayBeSet 29 = .ok (.invokevirtual 319, 3) := by decide +kernel
theorem dX12_rowMayBeSet_32 : decode cX12_rowMayBeSet 32 = .ok (.ifCond .eq 6, 3) := by decide +kernel
theorem dX12_rowMayBeSet_35 : decode cX12_rowMayBeSet 35 = .ok (.goto 25, 3) := by decide +kernel
theorem dX12_rowMayBeSet_38 : decode cX12_rowMayBeSet 38 = .ok (.aload_n 2, 1) := by decide +kernel
theorem dX12_rowMayBeSet_39 : decode cX12_rowMayBeSet 39 = .ok (.invokevirtual 306, 3) := by decide +kernel
theorem dX12_rowMayBeSet_42 : decode cX12_rowMayBeSet 42 = .ok (.ifCond .eq 16, 3) := by decide +kernel
theorem dX12_rowMayBeSet_45 : decode cX12_rowMayBeSet 45 = .ok (.aload_n 0, 1) := by decide +kernel
theorem dX12_rowMayBeSet_46 : decode cX12_rowMayBeSet 46 = .ok (.iconst 3, 1) := by decide +kernel
theorem dX12_rowMayBeSet_47 : decode cX12_rowMayBeSet 47 = .ok (.aload_n 2, 1) := by decide +kernel
theorem dX12_rowMayBeSet_48 : decode cX12_rowMayBeSet 48 = .ok (.aload_n 2, 1) := by decide +kernel
theorem dX12_rowMayBeSet_49 : decode cX12_rowMayBeSet 49 = .ok (.getfield 313, 3) := by decide +kernel
theorem dX12_rowMayBeSet_52 : decode cX12_rowMayBeSet 52 = .ok (.invokevirtual 328, 3) := by decide +kernel
theorem dX12_rowMayBeSet_55 : decode cX12_rowMayBeSet 55 = .ok (.ifCond .ne 5, 3) := by decide +kernel
theorem dX12_rowMayBeSet_58 : decode cX12_rowMayBeSet 58 = .ok (.iconst 0, 1) := by decide +kernel
theorem dX12_rowMayBeSet_59 : decode cX12_rowMayBeSet 59 = .ok (.ireturn, 1) := by decide +kernel
theorem dX12_rowMayBeSet_60 : decode cX12_rowMayBeSet 60 = .ok (.iinc 1 1, 3) := by decide +kernel
theorem dX12_rowMayBeSet_63 : decode cX12_rowMayBeSet 63 = .ok (.goto (-61), 3) := by decide +kernel
theorem dX12_rowMayBeSet_66 : decode cX12_rowMayBeSet 66 = .ok (.iconst 1, 1) := by decide +kernel
theorem dX12_rowMayBeSet_67 : decode cX12_rowMayBeSet 67 = .ok (.ireturn, 1) := by decide +kernel
theorem dX12_lay_0 : decode cX12_lay 0 = .ok (.aload_n 1, 1) := by decide +kernel
theorem dX12_lay_1 : decode cX12_lay 1 = .ok (.aload_n 0, 1) := by decide +kernel
theorem dX12_lay_2 : decode cX12_lay 2 = .ok (.invokevirtual 455, 3) := by decide +kernel
theorem dX12_lay_5 : decode cX12_lay 5 = .ok (.newarray .int, 2) := by decide +kernel
theorem dX12_lay_7 : decode cX12_lay 7 = .ok (.putfield 458, 3) := by decide +kernel
theorem dX12_lay_10 : decode cX12_lay 10 = .ok (.aload_n 1, 1) := by decide +kernel
theorem dX12_lay_11 : decode cX12_lay 11 = .ok (.aload_n 0, 1) := by decide +kernel
theorem dX12_lay_12 : decode cX12_lay 12 = .ok (.getfield 47, 3) := by decide +kernel
theorem dX12_lay_15 : decode cX12_lay 15 = .ok (.iconst 0, 1) := by decide +kernel
theorem dX12_lay_16 : decode cX12_lay 16 = .ok (.aload_n 0, 1) := by decide +kernel
theorem dX12_lay_17 : decode cX12_lay 17 = .ok (.getfield 268, 3) := by decide +kernel
theorem dX12_lay_20 : decode cX12_lay 20 = .ok (.invokestatic 379, 3) := by decide +kernel
theorem dX12_lay_23 : decode cX12_lay 23 = .ok (.invokestatic 461, 3) := by decide +kernel
theorem dX12_lay_26 : decode cX12_lay 26 = .ok (.putfield 263, 3) := by decide +kernel
theorem dX12_lay_29 : decode cX12_lay 29 = .ok (.aload_n 1, 1) := by decide +kernel
theorem dX12_lay_30 : decode cX12_lay 30 = .ok (.aload_n 0, 1) := by decide +kernel
theorem dX12_lay_31 : decode cX12_lay 31 = .ok (.getfield 133, 3) := by decide +kernel
theorem dX12_lay_34 : decode cX12_lay 34 = .ok (.putfield 170, 3) := by decide +kernel
theorem dX12_lay_37 : decode cX12_lay 37 = .ok (.aload_n 0, 1) := by decide +kernel
theorem dX12_lay_38 : decode cX12_lay 38 = .ok (.dup, 1) := by decide +kernel
theorem dX12_lay_39 : decode cX12_lay 39 = .ok (.getfield 158, 3) := by decide +kernel
theorem dX12_lay_42 : decode cX12_lay 42 = .ok (.iconst 1, 1) := by decide +kernel
theorem dX12_lay_43 : decode cX12_lay 43 = .ok (.iload_n 2, 1) := by decide +kernel
theorem dX12_lay_44 : decode cX12_lay 44 = .ok (.ishl, 1) := by decide +kernel
theorem dX12_lay_45 : decode cX12_lay 45 = .ok (.ior, 1) := by decide +kernel
theorem dX12_lay_46 : decode cX12_lay 46 = .ok (.putfield 158, 3) := by decide +kernel
theorem dX12_lay_49 : decode cX12_lay 49 = .ok (.iconst 0, 1) := by decide +kernel
theorem dX12_lay_50 : decode cX12_lay 50 = .ok (.istore_n 3, 1) := by decide +kernel
theorem dX12_lay_51 : decode cX12_lay 51 = .ok (.iload_n 3, 1) := by decide +kernel
theorem dX12_lay_52 : decode cX12_lay 52 = .ok (.aload_n 0, 1) := by decide +kernel
theorem dX12_lay_53 : decode cX12_lay 53 = .ok (.getfield 268, 3) := by decide +kernel
theorem dX12_lay_56 : decode cX12_lay 56 = .ok (.if_icmp .ge 83, 3) := by decide +kernel
theorem dX12_lay_59 : decode cX12_lay 59 = .ok (.aload_n 0, 1) := by decide +kernel
theorem dX12_lay_60 : decode cX12_lay 60 = .ok (.iload_n 3, 1) := by decide +kernel
theorem dX12_lay_61 : decode cX12_lay 61 = .ok (.invokevirtual 452, 3) := by decide +kernel
theorem dX12_lay_64 : decode cX12_lay 64 = .ok (.astore 4, 2) := by decide +kernel
theorem dX12_lay_66 : decode cX12_lay 66 = .ok (.aload 4, 2) := by decide +kernel
theorem dX12_lay_68 : decode cX12_lay 68 = .ok (.ifnonnull 6, 3) := by decide +kernel
theorem dX12_lay_71 : decode cX12_lay 71 = .ok (.goto 62, 3) := by decide +kernel
theorem dX12_lay_74 : decode cX12_lay 74 = .ok (.aload 4, 2) := by decide +kernel
theorem dX12_lay_76 : decode cX12_lay 76 = .ok (.iload_n 2, 1) := by decide +kernel
theorem dX12_lay_77 : decode cX12_lay 77 = .ok (.putfield 247, 3) := by decide +kernel
theorem dX12_lay_80 : decode cX12_lay 80 = .ok (.aload_n 0, 1) := by decide +kernel
theorem dX12_lay_81 : decode cX12_lay 81 = .ok (.aload 4, 2) := by decide +kernel
theorem dX12_lay_83 : decode cX12_lay 83 = .ok (.invokevirtual 319, 3) := by decide +kernel
theorem dX12_lay_86 : decode cX12_lay 86 = .ok (.ifCond .eq 16, 3) := by decide +kernel
theorem dX12_lay_89 : decode cX12_lay 89 = .ok (.aload_n 1, 1) := by decide +kernel
theorem dX12_lay_90 : decode cX12_lay 90 = .ok (.dup, 1) := by decide +kernel
theorem dX12_lay_91 : decode cX12_lay 91 = .ok (.getfield 465, 3) := by decide +kernel
theorem dX12_lay_94 : decode cX12_lay 94 = .ok (.iconst 1, 1) := by decide +kernel
theorem dX12_lay_95 : decode cX12_lay 95 = .ok (.iadd, 1) := by decide +kernel
theorem dX12_lay_96 : decode cX12_lay 96 = .ok (.putfield 465, 3) := by decide +kernel
theorem dX12_lay_99 : decode cX12_lay 99 = .ok (.goto 34, 3) := by decide +kernel
theorem dX12_lay_102 : decode cX12_lay 102 = .ok (.aload 4, 2) := by decide +kernel
theorem dX12_lay_104 : decode cX12_lay 104 = .ok (.aload_n 1, 1) := by decide +kernel
theorem dX12_lay_105 : decode cX12_lay 105 = .ok (.getfield 450, 3) := by decide +kernel
theorem dX12_lay_108 : decode cX12_lay 108 = .ok (.putfield 468, 3) := by decide +kernel
theorem dX12_lay_111 : decode cX12_lay 111 = .ok (.aload_n 0, 1) := by decide +kernel
theorem dX12_lay_112 : decode cX12_lay 112 = .ok (.aload_n 1, 1) := by decide +kernel
theorem dX12_lay_113 : decode cX12_lay 113 = .ok (.aload 4, 2) := by decide +kernel
theorem dX12_lay_115 : decode cX12_lay 115 = .ok (.invokevirtual 471, 3) := by decide +kernel
theorem dX12_lay_118 : decode cX12_lay 118 = .ok (.aload_n 1, 1) := by decide +kernel
theorem dX12_lay_119 : decode cX12_lay 119 = .ok (.dup, 1) := by decide +kernel
theorem dX12_lay_120 : decode cX12_lay 120 = .ok (.getfield 450, 3) := by decide +kernel
theorem dX12_lay_123 : decode cX12_lay 123 = .ok (.aload_n 0, 1) := by decide +kernel
theorem dX12_lay_124 : decode cX12_lay 124 = .ok (.aload 4, 2) := by decide +kernel
theorem dX12_lay_126 : decode cX12_lay 126 = .ok (.invokevirtual 475, 3) := by decide +kernel
theorem dX12_lay_129 : decode cX12_lay 129 = .ok (.iadd, 1) := by decide +kernel
theorem dX12_lay_130 : decode cX12_lay 130 = .ok (.putfield 450, 3) := by decide +kernel
theorem dX12_lay_133 : decode cX12_lay 133 = .ok (.iinc 3 1, 3) := by decide +kernel
theorem dX12_lay_136 : decode cX12_lay 136 = .ok (.goto (-85), 3) := by decide +kernel
theorem dX12_lay_139 : decode cX12_lay 139 = .ok (.return_, 1) := by decide +kernel
theorem dX12_linesInRow_0 : decode cX12_linesInRow 0 = .ok (.iconst 0, 1) := by decide +kernel
theorem dX12_linesInRow_1 : decode cX12_linesInRow 1 = .ok (.istore_n 1, 1) := by decide +kernel
theorem dX12_linesInRow_2 : decode cX12_linesInRow 2 = .ok (.iconst 0, 1) := by decide +kernel
theorem dX12_linesInRow_3 : decode cX12_linesInRow 3 = .ok (.istore_n 2, 1) := by decide +kernel
theorem dX12_linesInRow_4 : decode cX12_linesInRow 4 = .ok (.iload_n 2, 1) := by decide +kernel
theorem dX12_linesInRow_5 : decode cX12_linesInRow 5 = .ok (.aload_n 0, 1) := by decide +kernel
theorem dX12_linesInRow_6 : decode cX12_linesInRow 6 = .ok (.getfield 268, 3) := by decide +kernel
theorem dX12_linesInRow_9 : decode cX12_linesInRow 9 = .ok (.if_icmp .ge 34, 3) := by decide +kernel
theorem dX12_linesInRow_12 : decode cX12_linesInRow 12 = .ok (.aload_n 0, 1) := by decide +kernel
theorem dX12_linesInRow_13 : decode cX12_linesInRow 13 = .ok (.iload_n 2, 1) := by decide +kernel
theorem dX12_linesInRow_14 : decode cX12_linesInRow 14 = .ok (.invokevirtual 452, 3) := by decide +kernel
theorem dX12_linesInRow_17 : decode cX12_linesInRow 17 = .ok (.astore_n 3, 1) := by decide +kernel
theorem dX12_linesInRow_18 : decode cX12_linesInRow 18 = .ok (.aload_n 3, 1) := by decide +kernel
theorem dX12_linesInRow_19 : decode cX12_linesInRow 19 = .ok (.ifnull 18, 3) := by decide +kernel
theorem dX12_linesInRow_22 : decode cX12_linesInRow 22 = .ok (.aload_n 0, 1) := by decide +kernel
theorem dX12_linesInRow_23 : decode cX12_linesInRow 23 = .ok (.aload_n 3, 1) := by decide +kernel
theorem dX12_linesInRow_24 : decode cX12_linesInRow 24 = .ok (.invokevirtual 319, 3) := by decide +kernel
theorem dX12_linesInRow_27 : decode cX12_linesInRow 27 = .ok (.ifCond .ne 10, 3) := by decide +kernel
theorem dX12_linesInRow_30 : decode cX12_linesInRow 30 = .ok (.iload_n 1, 1) := by decide +kernel
theorem dX12_linesInRow_31 : decode cX12_linesInRow 31 = .ok (.aload_n 3, 1) := by decide +kernel
theorem dX12_linesInRow_32 : decode cX12_linesInRow 32 = .ok (.getfield 342, 3) := by decide +kernel
theorem dX12_linesInRow_35 : decode cX12_linesInRow 35 = .ok (.iadd, 1) := by decide +kernel
theorem dX12_linesInRow_36 : decode cX12_linesInRow 36 = .ok (.istore_n 1, 1) := by decide +kernel
theorem dX12_linesInRow_37 : decode cX12_linesInRow 37 = .ok (.iinc 2 1, 3) := by decide +kernel
theorem dX12_linesInRow_40 : decode cX12_linesInRow 40 = .ok (.goto (-36), 3) := by decide +kernel
theorem dX12_linesInRow_43 : decode cX12_linesInRow 43 = .ok (.iload_n 1, 1) := by decide +kernel
theorem dX12_linesInRow_44 : decode cX12_linesInRow 44 = .ok (.ireturn, 1) := by decide +kernel
theorem dX12_layLines_0 : decode cX12_layLines 0 = .ok (.aload_n 2, 1) := by decide +kernel
theorem dX12_layLines_1 : decode cX12_layLines 1 = .ok (.getfield 468, 3) := by decide +kernel
theorem dX12_layLines_4 : decode cX12_layLines 4 = .ok (.istore_n 3, 1) := by decide +kernel
theorem dX12_layLines_5 : decode cX12_layLines 5 = .ok (.iconst 0, 1) := by decide +kernel
theorem dX12_layLines_6 : decode cX12_layLines 6 = .ok (.istore 4, 2) := by decide +kernel
theorem dX12_layLines_8 : decode cX12_layLines 8 = .ok (.iload 4, 2) := by decide +kernel
theorem dX12_layLines_10 : decode cX12_layLines 10 = .ok (.aload_n 0, 1) := by decide +kernel
theorem dX12_layLines_11 : decode cX12_layLines 11 = .ok (.getfield 370, 3) := by decide +kernel
theorem dX12_layLines_14 : decode cX12_layLines 14 = .ok (.if_icmp .ge 49, 3) := by decide +kernel
theorem dX12_layLines_17 : decode cX12_layLines 17 = .ok (.aload_n 0, 1) := by decide +kernel
theorem dX12_layLines_18 : decode cX12_layLines 18 = .ok (.iload 4, 2) := by decide +kernel
theorem dX12_layLines_20 : decode cX12_layLines 20 = .ok (.invokevirtual 392, 3) := by decide +kernel
theorem dX12_layLines_23 : decode cX12_layLines 23 = .ok (.astore 5, 2) := by decide +kernel
theorem dX12_layLines_25 : decode cX12_layLines 25 = .ok (.aload 5, 2) := by decide +kernel
theorem dX12_layLines_27 : decode cX12_layLines 27 = .ok (.ifnull 30, 3) := by decide +kernel
theorem dX12_layLines_30 : decode cX12_layLines 30 = .ok (.aload 5, 2) := by decide +kernel
theorem dX12_layLines_32 : decode cX12_layLines 32 = .ok (.getfield 422, 3) := by decide +kernel
theorem dX12_layLines_35 : decode cX12_layLines 35 = .ok (.aload_n 2, 1) := by decide +kernel
theorem dX12_layLines_36 : decode cX12_layLines 36 = .ok (.getfield 186, 3) := by decide +kernel
theorem dX12_layLines_39 : decode cX12_layLines 39 = .ok (.if_icmp .ne 18, 3) := by decide +kernel
theorem dX12_layLines_42 : decode cX12_layLines 42 = .ok (.aload 5, 2) := by decide +kernel
theorem dX12_layLines_44 : decode cX12_layLines 44 = .ok (.iload_n 3, 1) := by decide +kernel
theorem dX12_layLines_45 : decode cX12_layLines 45 = .ok (.putfield 436, 3) := by decide +kernel
theorem dX12_layLines_48 : decode cX12_layLines 48 = .ok (.iinc 3 1, 3) := by decide +kernel
theorem dX12_layLines_51 : decode cX12_layLines 51 = .ok (.aload_n 1, 1) := by decide +kernel
theorem dX12_layLines_52 : decode cX12_layLines 52 = .ok (.iload 4, 2) := by decide +kernel
theorem dX12_layLines_54 : decode cX12_layLines 54 = .ok (.invokevirtual 478, 3) := by decide +kernel
theorem dX12_layLines_57 : decode cX12_layLines 57 = .ok (.iinc 4 1, 3) := by decide +kernel
theorem dX12_layLines_60 : decode cX12_layLines 60 = .ok (.goto (-52), 3) := by decide +kernel
theorem dX12_layLines_63 : decode cX12_layLines 63 = .ok (.return_, 1) := by decide +kernel
theorem dX12_takenLines_0 : decode cX12_takenLines 0 = .ok (.aload_n 1, 1) := by decide +kernel
theorem dX12_takenLines_1 : decode cX12_takenLines 1 = .ok (.getfield 240, 3) := by decide +kernel
theorem dX12_takenLines_4 : decode cX12_takenLines 4 = .ok (.ifCond .ne 8, 3) := by decide +kernel
theorem dX12_takenLines_7 : decode cX12_takenLines 7 = .ok (.aload_n 1, 1) := by decide +kernel
theorem dX12_takenLines_8 : decode cX12_takenLines 8 = .ok (.getfield 342, 3) := by decide +kernel
theorem dX12_takenLines_11 : decode cX12_takenLines 11 = .ok (.ireturn, 1) := by decide +kernel
theorem dX12_takenLines_12 : decode cX12_takenLines 12 = .ok (.aload_n 1, 1) := by decide +kernel
theorem dX12_takenLines_13 : decode cX12_takenLines 13 = .ok (.getfield 240, 3) := by decide +kernel
theorem dX12_takenLines_16 : decode cX12_takenLines 16 = .ok (.iconst 1, 1) := by decide +kernel
theorem dX12_takenLines_17 : decode cX12_takenLines 17 = .ok (.if_icmp .ne 7, 3) := by decide +kernel
theorem dX12_takenLines_20 : decode cX12_takenLines 20 = .ok (.iconst 1, 1) := by decide +kernel
theorem dX12_takenLines_21 : decode cX12_takenLines 21 = .ok (.goto 5, 3) := by decide +kernel
theorem dX12_takenLines_24 : decode cX12_takenLines 24 = .ok (.bipush 10, 2) := by decide +kernel
theorem dX12_takenLines_26 : decode cX12_takenLines 26 = .ok (.ireturn, 1) := by decide +kernel
theorem dX12_pageOf_0 : decode cX12_pageOf 0 = .ok (.iload_n 1, 1) := by decide +kernel
theorem dX12_pageOf_1 : decode cX12_pageOf 1 = .ok (.iconst (-1), 1) := by decide +kernel
theorem dX12_pageOf_2 : decode cX12_pageOf 2 = .ok (.if_icmp .ne 7, 3) := by decide +kernel
theorem dX12_pageOf_5 : decode cX12_pageOf 5 = .ok (.iconst (-1), 1) := by decide +kernel
theorem dX12_pageOf_6 : decode cX12_pageOf 6 = .ok (.goto 9, 3) := by decide +kernel
theorem dX12_pageOf_9 : decode cX12_pageOf 9 = .ok (.iload_n 1, 1) := by decide +kernel
theorem dX12_pageOf_10 : decode cX12_pageOf 10 = .ok (.bipush 40, 2) := by decide +kernel
theorem dX12_pageOf_12 : decode cX12_pageOf 12 = .ok (.idiv, 1) := by decide +kernel
theorem dX12_pageOf_13 : decode cX12_pageOf 13 = .ok (.iconst 1, 1) := by decide +kernel
theorem dX12_pageOf_14 : decode cX12_pageOf 14 = .ok (.iadd, 1) := by decide +kernel
theorem dX12_pageOf_15 : decode cX12_pageOf 15 = .ok (.ireturn, 1) := by decide +kernel
theorem dX12_page_0 : decode cX12_page 0 = .ok (.aload_n 0, 1) := by decide +kernel
theorem dX12_page_1 : decode cX12_page 1 = .ok (.iload_n 1, 1) := by decide +kernel
theorem dX12_page_2 : decode cX12_page 2 = .ok (.invokevirtual 189, 3) := by decide +kernel
theorem dX12_page_5 : decode cX12_page 5 = .ok (.astore_n 2, 1) := by decide +kernel
theorem dX12_page_6 : decode cX12_page 6 = .ok (.aload_n 2, 1) := by decide +kernel
theorem dX12_page_7 : decode cX12_page 7 = .ok (.ifnonnull 7, 3) := by decide +kernel
theorem dX12_page_10 : decode cX12_page 10 = .ok (.iconst (-1), 1) := by decide +kernel
theorem dX12_page_11 : decode cX12_page 11 = .ok (.goto 11, 3) := by decide +kernel
theorem dX12_page_14 : decode cX12_page 14 = .ok (.aload_n 0, 1) := by decide +kernel
theorem dX12_page_15 : decode cX12_page 15 = .ok (.aload_n 2, 1) := by decide +kernel
theorem dX12_page_16 : decode cX12_page 16 = .ok (.getfield 468, 3) := by decide +kernel
theorem dX12_page_19 : decode cX12_page 19 = .ok (.invokevirtual 439, 3) := by decide +kernel
theorem dX12_page_22 : decode cX12_page 22 = .ok (.ireturn, 1) := by decide +kernel
theorem dX12_promise_0 : decode cX12_promise 0 = .ok (.aload_n 0, 1) := by decide +kernel
theorem dX12_promise_1 : decode cX12_promise 1 = .ok (.iload_n 1, 1) := by decide +kernel
theorem dX12_promise_2 : decode cX12_promise 2 = .ok (.iconst 1, 1) := by decide +kernel
theorem dX12_promise_3 : decode cX12_promise 3 = .ok (.invokevirtual 243, 3) := by decide +kernel
theorem dX12_promise_6 : decode cX12_promise 6 = .ok (.astore_n 2, 1) := by decide +kernel
theorem dX12_promise_7 : decode cX12_promise 7 = .ok (.aload_n 2, 1) := by decide +kernel
theorem dX12_promise_8 : decode cX12_promise 8 = .ok (.ifnull 11, 3) := by decide +kernel
theorem dX12_promise_11 : decode cX12_promise 11 = .ok (.aload_n 0, 1) := by decide +kernel
theorem dX12_promise_12 : decode cX12_promise 12 = .ok (.aload_n 2, 1) := by decide +kernel
theorem dX12_promise_13 : decode cX12_promise 13 = .ok (.invokevirtual 481, 3) := by decide +kernel
theorem dX12_promise_16 : decode cX12_promise 16 = .ok (.ifCond .eq 5, 3) := by decide +kernel
theorem dX12_promise_19 : decode cX12_promise 19 = .ok (.iconst (-1), 1) := by decide +kernel
theorem dX12_promise_20 : decode cX12_promise 20 = .ok (.ireturn, 1) := by decide +kernel
theorem dX12_promise_21 : decode cX12_promise 21 = .ok (.aload_n 0, 1) := by decide +kernel
theorem dX12_promise_22 : decode cX12_promise 22 = .ok (.aload_n 2, 1) := by decide +kernel
theorem dX12_promise_23 : decode cX12_promise 23 = .ok (.invokevirtual 484, 3) := by decide +kernel
theorem dX12_promise_26 : decode cX12_promise 26 = .ok (.astore_n 3, 1) := by decide +kernel
theorem dX12_promise_27 : decode cX12_promise 27 = .ok (.aload_n 3, 1) := by decide +kernel
theorem dX12_promise_28 : decode cX12_promise 28 = .ok (.ifnonnull 5, 3) := by decide +kernel
theorem dX12_promise_31 : decode cX12_promise 31 = .ok (.iconst 3, 1) := by decide +kernel
theorem dX12_promise_32 : decode cX12_promise 32 = .ok (.ireturn, 1) := by decide +kernel
theorem dX12_promise_33 : decode cX12_promise 33 = .ok (.aload_n 0, 1) := by decide +kernel
theorem dX12_promise_34 : decode cX12_promise 34 = .ok (.aload_n 3, 1) := by decide +kernel
theorem dX12_promise_35 : decode cX12_promise 35 = .ok (.invokevirtual 481, 3) := by decide +kernel
theorem dX12_promise_38 : decode cX12_promise 38 = .ok (.ifCond .ne 11, 3) := by decide +kernel
theorem dX12_promise_41 : decode cX12_promise 41 = .ok (.aload_n 0, 1) := by decide +kernel
theorem dX12_promise_42 : decode cX12_promise 42 = .ok (.aload_n 2, 1) := by decide +kernel
theorem dX12_promise_43 : decode cX12_promise 43 = .ok (.invokevirtual 488, 3) := by decide +kernel
theorem dX12_promise_46 : decode cX12_promise 46 = .ok (.ifCond .eq 5, 3) := by decide +kernel
theorem dX12_promise_49 : decode cX12_promise 49 = .ok (.iconst 2, 1) := by decide +kernel
theorem dX12_promise_50 : decode cX12_promise 50 = .ok (.ireturn, 1) := by decide +kernel
theorem dX12_promise_51 : decode cX12_promise 51 = .ok (.aload_n 3, 1) := by decide +kernel
theorem dX12_promise_52 : decode cX12_promise 52 = .ok (.getfield 247, 3) := by decide +kernel
theorem dX12_promise_55 : decode cX12_promise 55 = .ok (.iconst (-1), 1) := by decide +kernel
theorem dX12_promise_56 : decode cX12_promise 56 = .ok (.if_icmp .eq 7, 3) := by decide +kernel
theorem dX12_promise_59 : decode cX12_promise 59 = .ok (.iconst 0, 1) := by decide +kernel
theorem dX12_promise_60 : decode cX12_promise 60 = .ok (.goto 4, 3) := by decide +kernel
theorem dX12_promise_63 : decode cX12_promise 63 = .ok (.iconst 1, 1) := by decide +kernel
theorem dX12_promise_64 : decode cX12_promise 64 = .ok (.ireturn, 1) := by decide +kernel
theorem dX12_isAway_0 : decode cX12_isAway 0 = .ok (.aload_n 0, 1) := by decide +kernel
theorem dX12_isAway_1 : decode cX12_isAway 1 = .ok (.aload_n 1, 1) := by decide +kernel
theorem dX12_isAway_2 : decode cX12_isAway 2 = .ok (.invokevirtual 319, 3) := by decide +kernel
theorem dX12_isAway_5 : decode cX12_isAway 5 = .ok (.ifCond .ne 11, 3) := by decide +kernel
theorem dX12_isAway_8 : decode cX12_isAway 8 = .ok (.aload_n 0, 1) := by decide +kernel
theorem dX12_isAway_9 : decode cX12_isAway 9 = .ok (.aload_n 1, 1) := by decide +kernel
theorem dX12_isAway_10 : decode cX12_isAway 10 = .ok (.invokevirtual 256, 3) := by decide +kernel
theorem dX12_isAway_13 : decode cX12_isAway 13 = .ok (.ifCond .eq 7, 3) := by decide +kernel
theorem dX12_isAway_16 : decode cX12_isAway 16 = .ok (.iconst 1, 1) := by decide +kernel
theorem dX12_isAway_17 : decode cX12_isAway 17 = .ok (.goto 4, 3) := by decide +kernel
theorem dX12_isAway_20 : decode cX12_isAway 20 = .ok (.iconst 0, 1) := by decide +kernel
theorem dX12_isAway_21 : decode cX12_isAway 21 = .ok (.ireturn, 1) := by decide +kernel
theorem dX12_endOf_0 : decode cX12_endOf 0 = .ok (.aload_n 1, 1) := by decide +kernel
theorem dX12_endOf_1 : decode cX12_endOf 1 = .ok (.astore_n 2, 1) := by decide +kernel
theorem dX12_endOf_2 : decode cX12_endOf 2 = .ok (.iconst 0, 1) := by decide +kernel
theorem dX12_endOf_3 : decode cX12_endOf 3 = .ok (.istore_n 3, 1) := by decide +kernel
theorem dX12_endOf_4 : decode cX12_endOf 4 = .ok (.iload_n 3, 1) := by decide +kernel
theorem dX12_endOf_5 : decode cX12_endOf 5 = .ok (.aload_n 0, 1) := by decide +kernel
theorem dX12_endOf_6 : decode cX12_endOf 6 = .ok (.getfield 203, 3) := by decide +kernel
theorem dX12_endOf_9 : decode cX12_endOf 9 = .ok (.if_icmp .gt 32, 3) := by decide +kernel
theorem dX12_endOf_12 : decode cX12_endOf 12 = .ok (.aload_n 2, 1) := by decide +kernel
theorem dX12_endOf_13 : decode cX12_endOf 13 = .ok (.ifnull 28, 3) := by decide +kernel
theorem dX12_endOf_16 : decode cX12_endOf 16 = .ok (.aload_n 2, 1) := by decide +kernel
theorem dX12_endOf_17 : decode cX12_endOf 17 = .ok (.getfield 240, 3) := by decide +kernel
theorem dX12_endOf_20 : decode cX12_endOf 20 = .ok (.iconst 1, 1) := by decide +kernel
theorem dX12_endOf_21 : decode cX12_endOf 21 = .ok (.if_icmp .eq 5, 3) := by decide +kernel
theorem dX12_endOf_24 : decode cX12_endOf 24 = .ok (.aload_n 2, 1) := by decide +kernel
theorem dX12_endOf_25 : decode cX12_endOf 25 = .ok (.areturn, 1) := by decide +kernel
theorem dX12_endOf_26 : decode cX12_endOf 26 = .ok (.aload_n 0, 1) := by decide +kernel
theorem dX12_endOf_27 : decode cX12_endOf 27 = .ok (.aload_n 2, 1) := by decide +kernel
theorem dX12_endOf_28 : decode cX12_endOf 28 = .ok (.getfield 193, 3) := by decide +kernel
theorem dX12_endOf_31 : decode cX12_endOf 31 = .ok (.invokevirtual 189, 3) := by decide +kernel
theorem dX12_endOf_34 : decode cX12_endOf 34 = .ok (.astore_n 2, 1) := by decide +kernel
theorem dX12_endOf_35 : decode cX12_endOf 35 = .ok (.iinc 3 1, 3) := by decide +kernel
theorem dX12_endOf_38 : decode cX12_endOf 38 = .ok (.goto (-34), 3) := by decide +kernel
theorem dX12_endOf_41 : decode cX12_endOf 41 = .ok (.aconst_null, 1) := by decide +kernel
theorem dX12_endOf_42 : decode cX12_endOf 42 = .ok (.areturn, 1) := by decide +kernel
theorem dX12_isBrokenOnTheWay_0 : decode cX12_isBrokenOnTheWay 0 = .ok (.aload_n 1, 1) := by decide +kernel
theorem dX12_isBrokenOnTheWay_1 : decode cX12_isBrokenOnTheWay 1 = .ok (.astore_n 2, 1) := by decide +kernel
theorem dX12_isBrokenOnTheWay_2 : decode cX12_isBrokenOnTheWay 2 = .ok (.iconst 0, 1) := by decide +kernel
theorem dX12_isBrokenOnTheWay_3 : decode cX12_isBrokenOnTheWay 3 = .ok (.istore_n 3, 1) := by decide +kernel
theorem dX12_isBrokenOnTheWay_4 : decode cX12_isBrokenOnTheWay 4 = .ok (.iload_n 3, 1) := by decide +kernel
theorem dX12_isBrokenOnTheWay_5 : decode cX12_isBrokenOnTheWay 5 = .ok (.aload_n 0, 1) := by decide +kernel
theorem dX12_isBrokenOnTheWay_6 : decode cX12_isBrokenOnTheWay 6 = .ok (.getfield 203, 3) := by decide +kernel
theorem dX12_isBrokenOnTheWay_9 : decode cX12_isBrokenOnTheWay 9 = .ok (.if_icmp .gt 40, 3) := by decide +kernel
theorem dX12_isBrokenOnTheWay_12 : decode cX12_isBrokenOnTheWay 12 = .ok (.aload_n 2, 1) := by decide +kernel
theorem dX12_isBrokenOnTheWay_13 : decode cX12_isBrokenOnTheWay 13 = .ok (.ifnull 36, 3) := by decide +kernel
theorem dX12_isBrokenOnTheWay_16 : decode cX12_isBrokenOnTheWay 16 = .ok (.aload_n 2, 1) := by decide +kernel
theorem dX12_isBrokenOnTheWay_17 : decode cX12_isBrokenOnTheWay 17 = .ok (.getfield 240, 3) := by decide +kernel
theorem dX12_isBrokenOnTheWay_20 : decode cX12_isBrokenOnTheWay 20 = .ok (.iconst 1, 1) := by decide +kernel
theorem dX12_isBrokenOnTheWay_21 : decode cX12_isBrokenOnTheWay 21 = .ok (.if_icmp .ne 28, 3) := by decide +kernel
theorem dX12_isBrokenOnTheWay_24 : decode cX12_isBrokenOnTheWay 24 = .ok (.aload_n 0, 1) := by decide +kernel
theorem dX12_isBrokenOnTheWay_25 : decode cX12_isBrokenOnTheWay 25 = .ok (.aload_n 2, 1) := by decide +kernel
theorem dX12_isBrokenOnTheWay_26 : decode cX12_isBrokenOnTheWay 26 = .ok (.invokevirtual 481, 3) := by decide +kernel
theorem dX12_isBrokenOnTheWay_29 : decode cX12_isBrokenOnTheWay 29 = .ok (.ifCond .eq 5, 3) := by decide +kernel
theorem dX12_isBrokenOnTheWay_32 : decode cX12_isBrokenOnTheWay 32 = .ok (.iconst 1, 1) := by decide +kernel
theorem dX12_isBrokenOnTheWay_33 : decode cX12_isBrokenOnTheWay 33 = .ok (.ireturn, 1) := by decide +kernel
theorem dX12_isBrokenOnTheWay_34 : decode cX12_isBrokenOnTheWay 34 = .ok (.aload_n 0, 1) := by decide +kernel
theorem dX12_isBrokenOnTheWay_35 : decode cX12_isBrokenOnTheWay 35 = .ok (.aload_n 2, 1) := by decide +kernel
theorem dX12_isBrokenOnTheWay_36 : decode cX12_isBrokenOnTheWay 36 = .ok (.getfield 193, 3) := by decide +kernel
theorem dX12_isBrokenOnTheWay_39 : decode cX12_isBrokenOnTheWay 39 = .ok (.invokevirtual 189, 3) := by decide +kernel
theorem dX12_isBrokenOnTheWay_42 : decode cX12_isBrokenOnTheWay 42 = .ok (.astore_n 2, 1) := by decide +kernel
theorem dX12_isBrokenOnTheWay_43 : decode cX12_isBrokenOnTheWay 43 = .ok (.iinc 3 1, 3) := by decide +kernel
theorem dX12_isBrokenOnTheWay_46 : decode cX12_isBrokenOnTheWay 46 = .ok (.goto (-42), 3) := by decide +kernel
theorem dX12_isBrokenOnTheWay_49 : decode cX12_isBrokenOnTheWay 49 = .ok (.iconst 0, 1) := by decide +kernel
theorem dX12_isBrokenOnTheWay_50 : decode cX12_isBrokenOnTheWay 50 = .ok (.ireturn, 1) := by decide +kernel
theorem dX12_ends_0 : decode cX12_ends 0 = .ok (.aload_n 0, 1) := by decide +kernel
theorem dX12_ends_1 : decode cX12_ends 1 = .ok (.iload_n 1, 1) := by decide +kernel
theorem dX12_ends_2 : decode cX12_ends 2 = .ok (.iconst 1, 1) := by decide +kernel
theorem dX12_ends_3 : decode cX12_ends 3 = .ok (.invokevirtual 243, 3) := by decide +kernel
theorem dX12_ends_6 : decode cX12_ends 6 = .ok (.astore_n 2, 1) := by decide +kernel
theorem dX12_ends_7 : decode cX12_ends 7 = .ok (.aload_n 2, 1) := by decide +kernel
theorem dX12_ends_8 : decode cX12_ends 8 = .ok (.ifnonnull 7, 3) := by decide +kernel
theorem dX12_ends_11 : decode cX12_ends 11 = .ok (.aconst_null, 1) := by decide +kernel
theorem dX12_ends_12 : decode cX12_ends 12 = .ok (.goto 8, 3) := by decide +kernel
theorem dX12_ends_15 : decode cX12_ends 15 = .ok (.aload_n 0, 1) := by decide +kernel
theorem dX12_ends_16 : decode cX12_ends 16 = .ok (.aload_n 2, 1) := by decide +kernel
theorem dX12_ends_17 : decode cX12_ends 17 = .ok (.invokevirtual 484, 3) := by decide +kernel
theorem dX12_ends_20 : decode cX12_ends 20 = .ok (.astore_n 3, 1) := by decide +kernel
theorem dX12_ends_21 : decode cX12_ends 21 = .ok (.aload_n 3, 1) := by decide +kernel
theorem dX12_ends_22 : decode cX12_ends 22 = .ok (.ifnonnull 7, 3) := by decide +kernel
theorem dX12_ends_25 : decode cX12_ends 25 = .ok (.iconst (-1), 1) := by decide +kernel
theorem dX12_ends_26 : decode cX12_ends 26 = .ok (.goto 7, 3) := by decide +kernel
theorem dX12_ends_29 : decode cX12_ends 29 = .ok (.aload_n 3, 1) := by decide +kernel
theorem dX12_ends_30 : decode cX12_ends 30 = .ok (.getfield 186, 3) := by decide +kernel
theorem dX12_ends_33 : decode cX12_ends 33 = .ok (.ireturn, 1) := by decide +kernel
theorem dX12_promised_0 : decode cX12_promised 0 = .ok (.aload_n 0, 1) := by decide +kernel
theorem dX12_promised_1 : decode cX12_promised 1 = .ok (.iload_n 1, 1) := by decide +kernel
theorem dX12_promised_2 : decode cX12_promised 2 = .ok (.invokevirtual 296, 3) := by decide +kernel
theorem dX12_promised_5 : decode cX12_promised 5 = .ok (.ifnonnull 5, 3) := by decide +kernel
theorem dX12_promised_8 : decode cX12_promised 8 = .ok (.iconst (-1), 1) := by decide +kernel
theorem dX12_promised_9 : decode cX12_promised 9 = .ok (.ireturn, 1) := by decide +kernel
theorem dX12_promised_10 : decode cX12_promised 10 = .ok (.iconst 0, 1) := by decide +kernel
theorem dX12_promised_11 : decode cX12_promised 11 = .ok (.istore_n 2, 1) := by decide +kernel
theorem dX12_promised_12 : decode cX12_promised 12 = .ok (.iconst 0, 1) := by decide +kernel
theorem dX12_promised_13 : decode cX12_promised 13 = .ok (.istore_n 3, 1) := by decide +kernel
theorem dX12_promised_14 : decode cX12_promised 14 = .ok (.iload_n 3, 1) := by decide +kernel
theorem dX12_promised_15 : decode cX12_promised 15 = .ok (.aload_n 0, 1) := by decide +kernel
theorem dX12_promised_16 : decode cX12_promised 16 = .ok (.getfield 203, 3) := by decide +kernel
theorem dX12_promised_19 : decode cX12_promised 19 = .ok (.if_icmp .ge 68, 3) := by decide +kernel
theorem dX12_promised_22 : decode cX12_promised 22 = .ok (.aload_n 0, 1) := by decide +kernel
theorem dX12_promised_23 : decode cX12_promised 23 = .ok (.iload_n 3, 1) := by decide +kernel
theorem dX12_promised_24 : decode cX12_promised 24 = .ok (.iconst 1, 1) := by decide +kernel
theorem dX12_promised_25 : decode cX12_promised 25 = .ok (.invokevirtual 243, 3) := by decide +kernel
theorem dX12_promised_28 : decode cX12_promised 28 = .ok (.astore 4, 2) := by decide +kernel
theorem dX12_promised_30 : decode cX12_promised 30 = .ok (.aload 4, 2) := by decide +kernel
theorem dX12_promised_32 : decode cX12_promised 32 = .ok (.ifnull 49, 3) := by decide +kernel
theorem dX12_promised_35 : decode cX12_promised 35 = .ok (.aload_n 0, 1) := by decide +kernel
theorem dX12_promised_36 : decode cX12_promised 36 = .ok (.aload 4, 2) := by decide +kernel
theorem dX12_promised_38 : decode cX12_promised 38 = .ok (.invokevirtual 319, 3) := by decide +kernel
theorem dX12_promised_41 : decode cX12_promised 41 = .ok (.ifCond .eq 6, 3) := by decide +kernel
theorem dX12_promised_44 : decode cX12_promised 44 = .ok (.goto 37, 3) := by decide +kernel
theorem dX12_promised_47 : decode cX12_promised 47 = .ok (.aload_n 0, 1) := by decide +kernel
theorem dX12_promised_48 : decode cX12_promised 48 = .ok (.aload 4, 2) := by decide +kernel
theorem dX12_promised_50 : decode cX12_promised 50 = .ok (.invokevirtual 484, 3) := by decide +kernel
theorem dX12_promised_53 : decode cX12_promised 53 = .ok (.astore 5, 2) := by decide +kernel
theorem dX12_promised_55 : decode cX12_promised 55 = .ok (.aload 5, 2) := by decide +kernel
theorem dX12_promised_57 : decode cX12_promised 57 = .ok (.ifnull 24, 3) := by decide +kernel
theorem dX12_promised_60 : decode cX12_promised 60 = .ok (.aload 5, 2) := by decide +kernel
theorem dX12_promised_62 : decode cX12_promised 62 = .ok (.getfield 313, 3) := by decide +kernel
theorem dX12_promised_65 : decode cX12_promised 65 = .ok (.iload_n 1, 1) := by decide +kernel
theorem dX12_promised_66 : decode cX12_promised 66 = .ok (.if_icmp .ne 15, 3) := by decide +kernel
theorem dX12_promised_69 : decode cX12_promised 69 = .ok (.aload_n 0, 1) := by decide +kernel
theorem dX12_promised_70 : decode cX12_promised 70 = .ok (.aload 5, 2) := by decide +kernel
theorem dX12_promised_72 : decode cX12_promised 72 = .ok (.invokevirtual 405, 3) := by decide +kernel
theorem dX12_promised_75 : decode cX12_promised 75 = .ok (.ifCond .eq 6, 3) := by decide +kernel
theorem dX12_promised_78 : decode cX12_promised 78 = .ok (.iinc 2 1, 3) := by decide +kernel
theorem dX12_promised_81 : decode cX12_promised 81 = .ok (.iinc 3 1, 3) := by decide +kernel
theorem dX12_promised_84 : decode cX12_promised 84 = .ok (.goto (-70), 3) := by decide +kernel
theorem dX12_promised_87 : decode cX12_promised 87 = .ok (.iload_n 2, 1) := by decide +kernel
theorem dX12_promised_88 : decode cX12_promised 88 = .ok (.ireturn, 1) := by decide +kernel
theorem dX12_subscribe_0 : decode cX12_subscribe 0 = .ok (.aload_n 0, 1) := by decide +kernel
theorem dX12_subscribe_1 : decode cX12_subscribe 1 = .ok (.iload_n 1, 1) := by decide +kernel
theorem dX12_subscribe_2 : decode cX12_subscribe 2 = .ok (.invokevirtual 491, 3) := by decide +kernel
theorem dX12_subscribe_5 : decode cX12_subscribe 5 = .ok (.ifCond .eq 33, 3) := by decide +kernel
theorem dX12_subscribe_8 : decode cX12_subscribe 8 = .ok (.aload_n 0, 1) := by decide +kernel
theorem dX12_subscribe_9 : decode cX12_subscribe 9 = .ok (.iload_n 2, 1) := by decide +kernel
theorem dX12_subscribe_10 : decode cX12_subscribe 10 = .ok (.invokevirtual 126, 3) := by decide +kernel
theorem dX12_subscribe_13 : decode cX12_subscribe 13 = .ok (.ifCond .eq 25, 3) := by decide +kernel
theorem dX12_subscribe_16 : decode cX12_subscribe 16 = .ok (.iload_n 3, 1) := by decide +kernel
theorem dX12_subscribe_17 : decode cX12_subscribe 17 = .ok (.iconst 1, 1) := by decide +kernel
theorem dX12_subscribe_18 : decode cX12_subscribe 18 = .ok (.if_icmp .lt 20, 3) := by decide +kernel
theorem dX12_subscribe_21 : decode cX12_subscribe 21 = .ok (.iload_n 3, 1) := by decide +kernel
theorem dX12_subscribe_22 : decode cX12_subscribe 22 = .ok (.sipush 999, 3) := by decide +kernel
theorem dX12_subscribe_25 : decode cX12_subscribe 25 = .ok (.if_icmp .gt 13, 3) := by decide +kernel
theorem dX12_subscribe_28 : decode cX12_subscribe 28 = .ok (.aload_n 0, 1) := by decide +kernel
theorem dX12_subscribe_29 : decode cX12_subscribe 29 = .ok (.getfield 70, 3) := by decide +kernel
theorem dX12_subscribe_32 : decode cX12_subscribe 32 = .ok (.iload_n 1, 1) := by decide +kernel
theorem dX12_subscribe_33 : decode cX12_subscribe 33 = .ok (.iaload, 1) := by decide +kernel
theorem dX12_subscribe_34 : decode cX12_subscribe 34 = .ok (.iconst (-1), 1) := by decide +kernel
theorem dX12_subscribe_35 : decode cX12_subscribe 35 = .ok (.if_icmp .eq 5, 3) := by decide +kernel
theorem dX12_subscribe_38 : decode cX12_subscribe 38 = .ok (.iconst 0, 1) := by decide +kernel
theorem dX12_subscribe_39 : decode cX12_subscribe 39 = .ok (.ireturn, 1) := by decide +kernel
theorem dX12_subscribe_40 : decode cX12_subscribe 40 = .ok (.aload_n 0, 1) := by decide +kernel
theorem dX12_subscribe_41 : decode cX12_subscribe 41 = .ok (.getfield 70, 3) := by decide +kernel
theorem dX12_subscribe_44 : decode cX12_subscribe 44 = .ok (.iload_n 1, 1) := by decide +kernel
theorem dX12_subscribe_45 : decode cX12_subscribe 45 = .ok (.iload_n 2, 1) := by decide +kernel
theorem dX12_subscribe_46 : decode cX12_subscribe 46 = .ok (.iastore, 1) := by decide +kernel
theorem dX12_subscribe_47 : decode cX12_subscribe 47 = .ok (.aload_n 0, 1) := by decide +kernel
theorem dX12_subscribe_48 : decode cX12_subscribe 48 = .ok (.getfield 73, 3) := by decide +kernel
theorem dX12_subscribe_51 : decode cX12_subscribe 51 = .ok (.iload_n 1, 1) := by decide +kernel
theorem dX12_subscribe_52 : decode cX12_subscribe 52 = .ok (.iload_n 3, 1) := by decide +kernel
theorem dX12_subscribe_53 : decode cX12_subscribe 53 = .ok (.iastore, 1) := by decide +kernel
theorem dX12_subscribe_54 : decode cX12_subscribe 54 = .ok (.iconst 1, 1) := by decide +kernel
theorem dX12_subscribe_55 : decode cX12_subscribe 55 = .ok (.ireturn, 1) := by decide +kernel
theorem dX12_isSubscriber_0 : decode cX12_isSubscriber 0 = .ok (.iload_n 1, 1) := by decide +kernel
theorem dX12_isSubscriber_1 : decode cX12_isSubscriber 1 = .ok (.ifCond .lt 13, 3) := by decide +kernel
theorem dX12_isSubscriber_4 : decode cX12_isSubscriber 4 = .ok (.iload_n 1, 1) := by decide +kernel
theorem dX12_isSubscriber_5 : decode cX12_isSubscriber 5 = .ok (.bipush 10, 2) := by decide +kernel
theorem dX12_isSubscriber_7 : decode cX12_isSubscriber 7 = .ok (.if_icmp .ge 7, 3) := by decide +kernel
theorem dX12_isSubscriber_10 : decode cX12_isSubscriber 10 = .ok (.iconst 1, 1) := by decide +kernel
theorem dX12_isSubscriber_11 : decode cX12_isSubscriber 11 = .ok (.goto 4, 3) := by decide +kernel
theorem dX12_isSubscriber_14 : decode cX12_isSubscriber 14 = .ok (.iconst 0, 1) := by decide +kernel
theorem dX12_isSubscriber_15 : decode cX12_isSubscriber 15 = .ok (.ireturn, 1) := by decide +kernel
theorem dX12_owed_0 : decode cX12_owed 0 = .ok (.aload_n 0, 1) := by decide +kernel
theorem dX12_owed_1 : decode cX12_owed 1 = .ok (.iload_n 2, 1) := by decide +kernel
theorem dX12_owed_2 : decode cX12_owed 2 = .ok (.invokevirtual 494, 3) := by decide +kernel
theorem dX12_owed_5 : decode cX12_owed 5 = .ok (.astore_n 3, 1) := by decide +kernel
theorem dX12_owed_6 : decode cX12_owed 6 = .ok (.aload_n 3, 1) := by decide +kernel
theorem dX12_owed_7 : decode cX12_owed 7 = .ok (.ifnull 31, 3) := by decide +kernel
theorem dX12_owed_10 : decode cX12_owed 10 = .ok (.aload_n 0, 1) := by decide +kernel
theorem dX12_owed_11 : decode cX12_owed 11 = .ok (.iload_n 1, 1) := by decide +kernel
theorem dX12_owed_12 : decode cX12_owed 12 = .ok (.invokevirtual 491, 3) := by decide +kernel
theorem dX12_owed_15 : decode cX12_owed 15 = .ok (.ifCond .eq 23, 3) := by decide +kernel
theorem dX12_owed_18 : decode cX12_owed 18 = .ok (.aload_n 0, 1) := by decide +kernel
theorem dX12_owed_19 : decode cX12_owed 19 = .ok (.getfield 70, 3) := by decide +kernel
theorem dX12_owed_22 : decode cX12_owed 22 = .ok (.iload_n 1, 1) := by decide +kernel
theorem dX12_owed_23 : decode cX12_owed 23 = .ok (.iaload, 1) := by decide +kernel
theorem dX12_owed_24 : decode cX12_owed 24 = .ok (.iconst (-1), 1) := by decide +kernel
theorem dX12_owed_25 : decode cX12_owed 25 = .ok (.if_icmp .eq 13, 3) := by decide +kernel
theorem dX12_owed_28 : decode cX12_owed 28 = .ok (.iload_n 2, 1) := by decide +kernel
theorem dX12_owed_29 : decode cX12_owed 29 = .ok (.aload_n 0, 1) := by decide +kernel
theorem dX12_owed_30 : decode cX12_owed 30 = .ok (.getfield 70, 3) := by decide +kernel
theorem dX12_owed_33 : decode cX12_owed 33 = .ok (.iload_n 1, 1) := by decide +kernel
theorem dX12_owed_34 : decode cX12_owed 34 = .ok (.iaload, 1) := by decide +kernel
theorem dX12_owed_35 : decode cX12_owed 35 = .ok (.if_icmp .ge 5, 3) := by decide +kernel
theorem dX12_owed_38 : decode cX12_owed 38 = .ok (.iconst (-1), 1) := by decide +kernel
theorem dX12_owed_39 : decode cX12_owed 39 = .ok (.ireturn, 1) := by decide +kernel
theorem dX12_owed_40 : decode cX12_owed 40 = .ok (.aload_n 0, 1) := by decide +kernel
theorem dX12_owed_41 : decode cX12_owed 41 = .ok (.getfield 19, 3) := by decide +kernel
theorem dX12_owed_44 : decode cX12_owed 44 = .ok (.invokevirtual 497, 3) := by decide +kernel
theorem dX12_owed_47 : decode cX12_owed 47 = .ok (.aload_n 0, 1) := by decide +kernel
theorem dX12_owed_48 : decode cX12_owed 48 = .ok (.getfield 19, 3) := by decide +kernel
theorem dX12_owed_51 : decode cX12_owed 51 = .ok (.bipush 8, 2) := by decide +kernel
theorem dX12_owed_53 : decode cX12_owed 53 = .ok (.aload_n 3, 1) := by decide +kernel
theorem dX12_owed_54 : decode cX12_owed 54 = .ok (.getfield 465, 3) := by decide +kernel
theorem dX12_owed_57 : decode cX12_owed 57 = .ok (.invokevirtual 339, 3) := by decide +kernel
theorem dX12_owed_60 : decode cX12_owed 60 = .ok (.aload_n 0, 1) := by decide +kernel
theorem dX12_owed_61 : decode cX12_owed 61 = .ok (.getfield 19, 3) := by decide +kernel
theorem dX12_owed_64 : decode cX12_owed 64 = .ok (.iconst 1, 1) := by decide +kernel
theorem dX12_owed_65 : decode cX12_owed 65 = .ok (.aload_n 3, 1) := by decide +kernel
theorem dX12_owed_66 : decode cX12_owed 66 = .ok (.getfield 450, 3) := by decide +kernel
theorem dX12_owed_69 : decode cX12_owed 69 = .ok (.invokevirtual 339, 3) := by decide +kernel
theorem dX12_owed_72 : decode cX12_owed 72 = .ok (.aload_n 0, 1) := by decide +kernel
theorem dX12_owed_73 : decode cX12_owed 73 = .ok (.getfield 19, 3) := by decide +kernel
theorem dX12_owed_76 : decode cX12_owed 76 = .ok (.bipush 7, 2) := by decide +kernel
theorem dX12_owed_78 : decode cX12_owed 78 = .ok (.iload_n 2, 1) := by decide +kernel
theorem dX12_owed_79 : decode cX12_owed 79 = .ok (.invokevirtual 339, 3) := by decide +kernel
theorem dX12_owed_82 : decode cX12_owed 82 = .ok (.aload_n 0, 1) := by decide +kernel
theorem dX12_owed_83 : decode cX12_owed 83 = .ok (.getfield 19, 3) := by decide +kernel
theorem dX12_owed_86 : decode cX12_owed 86 = .ok (.iconst 4, 1) := by decide +kernel
theorem dX12_owed_87 : decode cX12_owed 87 = .ok (.iload_n 2, 1) := by decide +kernel
theorem dX12_owed_88 : decode cX12_owed 88 = .ok (.aload_n 3, 1) := by decide +kernel
theorem dX12_owed_89 : decode cX12_owed 89 = .ok (.getfield 170, 3) := by decide +kernel
theorem dX12_owed_92 : decode cX12_owed 92 = .ok (.invokevirtual 336, 3) := by decide +kernel
theorem dX12_owed_95 : decode cX12_owed 95 = .ok (.istore 4, 2) := by decide +kernel
theorem dX12_owed_97 : decode cX12_owed 97 = .ok (.iconst 0, 1) := by decide +kernel
theorem dX12_owed_98 : decode cX12_owed 98 = .ok (.aload_n 0, 1) := by decide +kernel
theorem dX12_owed_99 : decode cX12_owed 99 = .ok (.getfield 73, 3) := by decide +kernel
theorem dX12_owed_102 : decode cX12_owed 102 = .ok (.iload_n 1, 1) := by decide +kernel
theorem dX12_owed_103 : decode cX12_owed 103 = .ok (.iaload, 1) := by decide +kernel
theorem dX12_owed_104 : decode cX12_owed 104 = .ok (.iload 4, 2) := by decide +kernel
theorem dX12_owed_106 : decode cX12_owed 106 = .ok (.invokestatic 152, 3) := by decide +kernel
theorem dX12_owed_109 : decode cX12_owed 109 = .ok (.invokestatic 379, 3) := by decide +kernel
theorem dX12_owed_112 : decode cX12_owed 112 = .ok (.ireturn, 1) := by decide +kernel
theorem dX12_lengths_0 : decode cX12_lengths 0 = .ok (.aload_n 0, 1) := by decide +kernel
theorem dX12_lengths_1 : decode cX12_lengths 1 = .ok (.iload_n 1, 1) := by decide +kernel
theorem dX12_lengths_2 : decode cX12_lengths 2 = .ok (.iload_n 2, 1) := by decide +kernel
theorem dX12_lengths_3 : decode cX12_lengths 3 = .ok (.invokevirtual 500, 3) := by decide +kernel
theorem dX12_lengths_6 : decode cX12_lengths 6 = .ok (.ifCond .eq 13, 3) := by decide +kernel
theorem dX12_lengths_9 : decode cX12_lengths 9 = .ok (.aload_n 0, 1) := by decide +kernel
theorem dX12_lengths_10 : decode cX12_lengths 10 = .ok (.getfield 85, 3) := by decide +kernel
theorem dX12_lengths_13 : decode cX12_lengths 13 = .ok (.invokevirtual 503, 3) := by decide +kernel
theorem dX12_lengths_16 : decode cX12_lengths 16 = .ok (.goto 4, 3) := by decide +kernel
theorem dX12_lengths_19 : decode cX12_lengths 19 = .ok (.iconst (-1), 1) := by decide +kernel
theorem dX12_lengths_20 : decode cX12_lengths 20 = .ok (.ireturn, 1) := by decide +kernel
theorem dX12_length_0 : decode cX12_length 0 = .ok (.aload_n 0, 1) := by decide +kernel
theorem dX12_length_1 : decode cX12_length 1 = .ok (.iload_n 1, 1) := by decide +kernel
theorem dX12_length_2 : decode cX12_length 2 = .ok (.iconst 0, 1) := by decide +kernel
theorem dX12_length_3 : decode cX12_length 3 = .ok (.invokevirtual 243, 3) := by decide +kernel
theorem dX12_length_6 : decode cX12_length 6 = .ok (.astore_n 3, 1) := by decide +kernel
theorem dX12_length_7 : decode cX12_length 7 = .ok (.aload_n 3, 1) := by decide +kernel
theorem dX12_length_8 : decode cX12_length 8 = .ok (.ifnull 24, 3) := by decide +kernel
theorem dX12_length_11 : decode cX12_length 11 = .ok (.aload_n 0, 1) := by decide +kernel
theorem dX12_length_12 : decode cX12_length 12 = .ok (.aload_n 3, 1) := by decide +kernel
theorem dX12_length_13 : decode cX12_length 13 = .ok (.invokevirtual 481, 3) := by decide +kernel
theorem dX12_length_16 : decode cX12_length 16 = .ok (.ifCond .ne 16, 3) := by decide +kernel
theorem dX12_length_19 : decode cX12_length 19 = .ok (.aload_n 0, 1) := by decide +kernel
theorem dX12_length_20 : decode cX12_length 20 = .ok (.aload_n 0, 1) := by decide +kernel
theorem dX12_length_21 : decode cX12_length 21 = .ok (.aload_n 3, 1) := by decide +kernel
theorem dX12_length_22 : decode cX12_length 22 = .ok (.invokevirtual 260, 3) := by decide +kernel
theorem dX12_length_25 : decode cX12_length 25 = .ok (.iload_n 2, 1) := by decide +kernel
theorem dX12_length_26 : decode cX12_length 26 = .ok (.invokevirtual 500, 3) := by decide +kernel
theorem dX12_length_29 : decode cX12_length 29 = .ok (.ifCond .ne 5, 3) := by decide +kernel
theorem dX12_length_32 : decode cX12_length 32 = .ok (.iconst (-1), 1) := by decide +kernel
theorem dX12_length_33 : decode cX12_length 33 = .ok (.ireturn, 1) := by decide +kernel
theorem dX12_length_34 : decode cX12_length 34 = .ok (.aload_n 0, 1) := by decide +kernel
theorem dX12_length_35 : decode cX12_length 35 = .ok (.getfield 85, 3) := by decide +kernel
theorem dX12_length_38 : decode cX12_length 38 = .ok (.iload_n 1, 1) := by decide +kernel
theorem dX12_length_39 : decode cX12_length 39 = .ok (.invokevirtual 506, 3) := by decide +kernel
theorem dX12_length_42 : decode cX12_length 42 = .ok (.ireturn, 1) := by decide +kernel
theorem dX12_fit_0 : decode cX12_fit 0 = .ok (.aload_n 0, 1) := by decide +kernel
theorem dX12_fit_1 : decode cX12_fit 1 = .ok (.iload_n 1, 1) := by decide +kernel
theorem dX12_fit_2 : decode cX12_fit 2 = .ok (.invokevirtual 126, 3) := by decide +kernel
theorem dX12_fit_5 : decode cX12_fit 5 = .ok (.ifCond .eq 23, 3) := by decide +kernel
theorem dX12_fit_8 : decode cX12_fit 8 = .ok (.aload_n 0, 1) := by decide +kernel
theorem dX12_fit_9 : decode cX12_fit 9 = .ok (.iload_n 1, 1) := by decide +kernel
theorem dX12_fit_10 : decode cX12_fit 10 = .ok (.invokevirtual 130, 3) := by decide +kernel
theorem dX12_fit_13 : decode cX12_fit 13 = .ok (.ifCond .ne 15, 3) := by decide +kernel
theorem dX12_fit_16 : decode cX12_fit 16 = .ok (.iload_n 2, 1) := by decide +kernel
theorem dX12_fit_17 : decode cX12_fit 17 = .ok (.iconst 1, 1) := by decide +kernel
theorem dX12_fit_18 : decode cX12_fit 18 = .ok (.if_icmp .lt 10, 3) := by decide +kernel
theorem dX12_fit_21 : decode cX12_fit 21 = .ok (.iload_n 2, 1) := by decide +kernel
theorem dX12_fit_22 : decode cX12_fit 22 = .ok (.sipush 400, 3) := by decide +kernel
theorem dX12_fit_25 : decode cX12_fit 25 = .ok (.if_icmp .le 5, 3) := by decide +kernel
theorem dX12_fit_28 : decode cX12_fit 28 = .ok (.iconst 0, 1) := by decide +kernel
theorem dX12_fit_29 : decode cX12_fit 29 = .ok (.ireturn, 1) := by decide +kernel
theorem dX12_fit_30 : decode cX12_fit 30 = .ok (.aload_n 0, 1) := by decide +kernel
theorem dX12_fit_31 : decode cX12_fit 31 = .ok (.iload_n 1, 1) := by decide +kernel
theorem dX12_fit_32 : decode cX12_fit 32 = .ok (.invokevirtual 265, 3) := by decide +kernel
theorem dX12_fit_35 : decode cX12_fit 35 = .ok (.aload_n 0, 1) := by decide +kernel
theorem dX12_fit_36 : decode cX12_fit 36 = .ok (.getfield 85, 3) := by decide +kernel
theorem dX12_fit_39 : decode cX12_fit 39 = .ok (.invokevirtual 509, 3) := by decide +kernel
theorem dX12_fit_42 : decode cX12_fit 42 = .ok (.iconst 0, 1) := by decide +kernel
theorem dX12_fit_43 : decode cX12_fit 43 = .ok (.istore_n 3, 1) := by decide +kernel
theorem dX12_fit_44 : decode cX12_fit 44 = .ok (.iload_n 3, 1) := by decide +kernel
theorem dX12_fit_45 : decode cX12_fit 45 = .ok (.aload_n 0, 1) := by decide +kernel
theorem dX12_fit_46 : decode cX12_fit 46 = .ok (.getfield 268, 3) := by decide +kernel
theorem dX12_fit_49 : decode cX12_fit 49 = .ok (.if_icmp .ge 36, 3) := by decide +kernel
theorem dX12_fit_52 : decode cX12_fit 52 = .ok (.aload_n 0, 1) := by decide +kernel
theorem dX12_fit_53 : decode cX12_fit 53 = .ok (.iload_n 3, 1) := by decide +kernel
theorem dX12_fit_54 : decode cX12_fit 54 = .ok (.invokevirtual 452, 3) := by decide +kernel
theorem dX12_fit_57 : decode cX12_fit 57 = .ok (.astore 4, 2) := by decide +kernel
theorem dX12_fit_59 : decode cX12_fit 59 = .ok (.aload 4, 2) := by decide +kernel
theorem dX12_fit_61 : decode cX12_fit 61 = .ok (.ifnull 18, 3) := by decide +kernel
theorem dX12_fit_64 : decode cX12_fit 64 = .ok (.aload_n 0, 1) := by decide +kernel
theorem dX12_fit_65 : decode cX12_fit 65 = .ok (.aload 4, 2) := by decide +kernel
theorem dX12_fit_67 : decode cX12_fit 67 = .ok (.invokevirtual 319, 3) := by decide +kernel
theorem dX12_fit_70 : decode cX12_fit 70 = .ok (.ifCond .ne 9, 3) := by decide +kernel
theorem dX12_fit_73 : decode cX12_fit 73 = .ok (.aload_n 0, 1) := by decide +kernel
theorem dX12_fit_74 : decode cX12_fit 74 = .ok (.aload 4, 2) := by decide +kernel
theorem dX12_fit_76 : decode cX12_fit 76 = .ok (.invokevirtual 512, 3) := by decide +kernel
theorem dX12_fit_79 : decode cX12_fit 79 = .ok (.iinc 3 1, 3) := by decide +kernel
theorem dX12_fit_82 : decode cX12_fit 82 = .ok (.goto (-38), 3) := by decide +kernel
theorem dX12_fit_85 : decode cX12_fit 85 = .ok (.aload_n 0, 1) := by decide +kernel
theorem dX12_fit_86 : decode cX12_fit 86 = .ok (.getfield 85, 3) := by decide +kernel
theorem dX12_fit_89 : decode cX12_fit 89 = .ok (.iload_n 2, 1) := by decide +kernel
theorem dX12_fit_90 : decode cX12_fit 90 = .ok (.invokevirtual 515, 3) := by decide +kernel
theorem dX12_fit_93 : decode cX12_fit 93 = .ok (.ireturn, 1) := by decide +kernel
theorem dX12_addToFitting_0 : decode cX12_addToFitting 0 = .ok (.aload_n 1, 1) := by decide +kernel
theorem dX12_addToFitting_1 : decode cX12_addToFitting 1 = .ok (.getfield 240, 3) := by decide +kernel
theorem dX12_addToFitting_4 : decode cX12_addToFitting 4 = .ok (.ifCond .eq 21, 3) := by decide +kernel
theorem dX12_addToFitting_7 : decode cX12_addToFitting 7 = .ok (.aload_n 0, 1) := by decide +kernel
theorem dX12_addToFitting_8 : decode cX12_addToFitting 8 = .ok (.getfield 85, 3) := by decide +kernel
theorem dX12_addToFitting_11 : decode cX12_addToFitting 11 = .ok (.dup, 1) := by decide +kernel
theorem dX12_addToFitting_12 : decode cX12_addToFitting 12 = .ok (.getfield 518, 3) := by decide +kernel
theorem dX12_addToFitting_15 : decode cX12_addToFitting 15 = .ok (.aload_n 0, 1) := by decide +kernel
theorem dX12_addToFitting_16 : decode cX12_addToFitting 16 = .ok (.aload_n 1, 1) := by decide +kernel
theorem dX12_addToFitting_17 : decode cX12_addToFitting 17 = .ok (.invokevirtual 475, 3) := by decide +kernel
theorem dX12_addToFitting_20 : decode cX12_addToFitting 20 = .ok (.iadd, 1) := by decide +kernel
theorem dX12_addToFitting_21 : decode cX12_addToFitting 21 = .ok (.putfield 518, 3) := by decide +kernel
theorem dX12_addToFitting_24 : decode cX12_addToFitting 24 = .ok (.return_, 1) := by decide +kernel
theorem dX12_addToFitting_25 : decode cX12_addToFitting 25 = .ok (.aload_n 0, 1) := by decide +kernel
theorem dX12_addToFitting_26 : decode cX12_addToFitting 26 = .ok (.aload_n 0, 1) := by decide +kernel
theorem dX12_addToFitting_27 : decode cX12_addToFitting 27 = .ok (.iconst 5, 1) := by decide +kernel
theorem dX12_addToFitting_28 : decode cX12_addToFitting 28 = .ok (.aload_n 1, 1) := by decide +kernel
theorem dX12_addToFitting_29 : decode cX12_addToFitting 29 = .ok (.getfield 177, 3) := by decide +kernel
theorem dX12_addToFitting_32 : decode cX12_addToFitting 32 = .ok (.iadd, 1) := by decide +kernel
theorem dX12_addToFitting_33 : decode cX12_addToFitting 33 = .ok (.aload_n 1, 1) := by decide +kernel
theorem dX12_addToFitting_34 : decode cX12_addToFitting 34 = .ok (.aload_n 1, 1) := by decide +kernel
theorem dX12_addToFitting_35 : decode cX12_addToFitting 35 = .ok (.getfield 313, 3) := by decide +kernel
theorem dX12_addToFitting_38 : decode cX12_addToFitting 38 = .ok (.invokevirtual 328, 3) := by decide +kernel
theorem dX12_addToFitting_41 : decode cX12_addToFitting 41 = .ok (.invokevirtual 521, 3) := by decide +kernel
theorem dX12_addToFitting_44 : decode cX12_addToFitting 44 = .ok (.istore_n 2, 1) := by decide +kernel
theorem dX12_addToFitting_45 : decode cX12_addToFitting 45 = .ok (.aload_n 0, 1) := by decide +kernel
theorem dX12_addToFitting_46 : decode cX12_addToFitting 46 = .ok (.aload_n 0, 1) := by decide +kernel
theorem dX12_addToFitting_47 : decode cX12_addToFitting 47 = .ok (.bipush 8, 2) := by decide +kernel
theorem dX12_addToFitting_49 : decode cX12_addToFitting 49 = .ok (.aload_n 1, 1) := by decide +kernel
theorem dX12_addToFitting_50 : decode cX12_addToFitting 50 = .ok (.getfield 177, 3) := by decide +kernel
theorem dX12_addToFitting_53 : decode cX12_addToFitting 53 = .ok (.iadd, 1) := by decide +kernel
theorem dX12_addToFitting_54 : decode cX12_addToFitting 54 = .ok (.aload_n 1, 1) := by decide +kernel
theorem dX12_addToFitting_55 : decode cX12_addToFitting 55 = .ok (.aload_n 1, 1) := by decide +kernel
theorem dX12_addToFitting_56 : decode cX12_addToFitting 56 = .ok (.getfield 313, 3) := by decide +kernel
theorem dX12_addToFitting_59 : decode cX12_addToFitting 59 = .ok (.invokevirtual 328, 3) := by decide +kernel
theorem dX12_addToFitting_62 : decode cX12_addToFitting 62 = .ok (.invokevirtual 521, 3) := by decide +kernel
theorem dX12_addToFitting_65 : decode cX12_addToFitting 65 = .ok (.istore_n 3, 1) := by decide +kernel
theorem dX12_addToFitting_66 : decode cX12_addToFitting 66 = .ok (.aload_n 0, 1) := by decide +kernel
theorem dX12_addToFitting_67 : decode cX12_addToFitting 67 = .ok (.getfield 85, 3) := by decide +kernel
theorem dX12_addToFitting_70 : decode cX12_addToFitting 70 = .ok (.aload_n 1, 1) := by decide +kernel
theorem dX12_addToFitting_71 : decode cX12_addToFitting 71 = .ok (.getfield 186, 3) := by decide +kernel
theorem dX12_addToFitting_74 : decode cX12_addToFitting 74 = .ok (.aload_n 1, 1) := by decide +kernel
theorem dX12_addToFitting_75 : decode cX12_addToFitting 75 = .ok (.getfield 183, 3) := by decide +kernel
theorem dX12_addToFitting_78 : decode cX12_addToFitting 78 = .ok (.iload_n 2, 1) := by decide +kernel
theorem dX12_addToFitting_79 : decode cX12_addToFitting 79 = .ok (.iload_n 3, 1) := by decide +kernel
theorem dX12_addToFitting_80 : decode cX12_addToFitting 80 = .ok (.invokestatic 152, 3) := by decide +kernel
theorem dX12_addToFitting_83 : decode cX12_addToFitting 83 = .ok (.iload_n 3, 1) := by decide +kernel
theorem dX12_addToFitting_84 : decode cX12_addToFitting 84 = .ok (.invokevirtual 524, 3) := by decide +kernel
theorem dX12_addToFitting_87 : decode cX12_addToFitting 87 = .ok (.return_, 1) := by decide +kernel
theorem dX12_lengthWithin_0 : decode cX12_lengthWithin 0 = .ok (.iconst 1, 1) := by decide +kernel
theorem dX12_lengthWithin_1 : decode cX12_lengthWithin 1 = .ok (.sipush 400, 3) := by decide +kernel
theorem dX12_lengthWithin_4 : decode cX12_lengthWithin 4 = .ok (.iload_n 1, 1) := by decide +kernel
theorem dX12_lengthWithin_5 : decode cX12_lengthWithin 5 = .ok (.invokestatic 152, 3) := by decide +kernel
theorem dX12_lengthWithin_8 : decode cX12_lengthWithin 8 = .ok (.invokestatic 379, 3) := by decide +kernel
theorem dX12_lengthWithin_11 : decode cX12_lengthWithin 11 = .ok (.ireturn, 1) := by decide +kernel
theorem dX12_giving_0 : decode cX12_giving 0 = .ok (.aload_n 0, 1) := by decide +kernel
theorem dX12_giving_1 : decode cX12_giving 1 = .ok (.iload_n 1, 1) := by decide +kernel
theorem dX12_giving_2 : decode cX12_giving 2 = .ok (.iload_n 2, 1) := by decide +kernel
theorem dX12_giving_3 : decode cX12_giving 3 = .ok (.iload_n 3, 1) := by decide +kernel
theorem dX12_giving_4 : decode cX12_giving 4 = .ok (.invokevirtual 528, 3) := by decide +kernel
theorem dX12_giving_7 : decode cX12_giving 7 = .ok (.ifCond .eq 30, 3) := by decide +kernel
theorem dX12_giving_10 : decode cX12_giving 10 = .ok (.aload_n 0, 1) := by decide +kernel
theorem dX12_giving_11 : decode cX12_giving 11 = .ok (.iload_n 2, 1) := by decide +kernel
theorem dX12_giving_12 : decode cX12_giving 12 = .ok (.iload_n 3, 1) := by decide +kernel
theorem dX12_giving_13 : decode cX12_giving 13 = .ok (.invokevirtual 532, 3) := by decide +kernel
theorem dX12_giving_16 : decode cX12_giving 16 = .ok (.ifCond .eq 21, 3) := by decide +kernel
theorem dX12_giving_19 : decode cX12_giving 19 = .ok (.aload_n 0, 1) := by decide +kernel
theorem dX12_giving_20 : decode cX12_giving 20 = .ok (.iload_n 1, 1) := by decide +kernel
theorem dX12_giving_21 : decode cX12_giving 21 = .ok (.invokevirtual 535, 3) := by decide +kernel
theorem dX12_giving_24 : decode cX12_giving 24 = .ok (.ifCond .eq 13, 3) := by decide +kernel
theorem dX12_giving_27 : decode cX12_giving 27 = .ok (.aload_n 0, 1) := by decide +kernel
theorem dX12_giving_28 : decode cX12_giving 28 = .ok (.getfield 92, 3) := by decide +kernel
theorem dX12_giving_31 : decode cX12_giving 31 = .ok (.invokevirtual 538, 3) := by decide +kernel
theorem dX12_giving_34 : decode cX12_giving 34 = .ok (.goto 4, 3) := by decide +kernel
theorem dX12_giving_37 : decode cX12_giving 37 = .ok (.iconst (-1), 1) := by decide +kernel
theorem dX12_giving_38 : decode cX12_giving 38 = .ok (.ireturn, 1) := by decide +kernel
theorem dX12_given_0 : decode cX12_given 0 = .ok (.aload_n 0, 1) := by decide +kernel
theorem dX12_given_1 : decode cX12_given 1 = .ok (.iload_n 1, 1) := by decide +kernel
theorem dX12_given_2 : decode cX12_given 2 = .ok (.iload_n 2, 1) := by decide +kernel
theorem dX12_given_3 : decode cX12_given 3 = .ok (.iload_n 3, 1) := by decide +kernel
theorem dX12_given_4 : decode cX12_given 4 = .ok (.invokevirtual 528, 3) := by decide +kernel
theorem dX12_given_7 : decode cX12_given 7 = .ok (.ifCond .eq 24, 3) := by decide +kernel
theorem dX12_given_10 : decode cX12_given 10 = .ok (.aload_n 0, 1) := by decide +kernel
theorem dX12_given_11 : decode cX12_given 11 = .ok (.iload_n 2, 1) := by decide +kernel
theorem dX12_given_12 : decode cX12_given 12 = .ok (.iload_n 3, 1) := by decide +kernel
theorem dX12_given_13 : decode cX12_given 13 = .ok (.invokevirtual 532, 3) := by decide +kernel
theorem dX12_given_16 : decode cX12_given 16 = .ok (.ifCond .eq 15, 3) := by decide +kernel
theorem dX12_given_19 : decode cX12_given 19 = .ok (.aload_n 0, 1) := by decide +kernel
theorem dX12_given_20 : decode cX12_given 20 = .ok (.iload_n 1, 1) := by decide +kernel
theorem dX12_given_21 : decode cX12_given 21 = .ok (.invokevirtual 535, 3) := by decide +kernel
theorem dX12_given_24 : decode cX12_given 24 = .ok (.ifCond .eq 7, 3) := by decide +kernel
theorem dX12_given_27 : decode cX12_given 27 = .ok (.iconst 1, 1) := by decide +kernel
theorem dX12_given_28 : decode cX12_given 28 = .ok (.goto 4, 3) := by decide +kernel
theorem dX12_given_31 : decode cX12_given 31 = .ok (.iconst 0, 1) := by decide +kernel
theorem dX12_given_32 : decode cX12_given 32 = .ok (.istore 5, 2) := by decide +kernel
theorem dX12_given_34 : decode cX12_given 34 = .ok (.iload 5, 2) := by decide +kernel
theorem dX12_given_36 : decode cX12_given 36 = .ok (.ifCond .eq 25, 3) := by decide +kernel
theorem dX12_given_39 : decode cX12_given 39 = .ok (.aload_n 0, 1) := by decide +kernel
theorem dX12_given_40 : decode cX12_given 40 = .ok (.getfield 92, 3) := by decide +kernel
theorem dX12_given_43 : decode cX12_given 43 = .ok (.invokevirtual 538, 3) := by decide +kernel
theorem dX12_given_46 : decode cX12_given 46 = .ok (.ifCond .le 15, 3) := by decide +kernel
theorem dX12_given_49 : decode cX12_given 49 = .ok (.aload_n 0, 1) := by decide +kernel
theorem dX12_given_50 : decode cX12_given 50 = .ok (.getfield 92, 3) := by decide +kernel
theorem dX12_given_53 : decode cX12_given 53 = .ok (.iload 4, 2) := by decide +kernel
theorem dX12_given_55 : decode cX12_given 55 = .ok (.invokevirtual 541, 3) := by decide +kernel
theorem dX12_given_58 : decode cX12_given 58 = .ok (.goto 4, 3) := by decide +kernel
theorem dX12_given_61 : decode cX12_given 61 = .ok (.iconst (-1), 1) := by decide +kernel
theorem dX12_given_62 : decode cX12_given 62 = .ok (.ireturn, 1) := by decide +kernel
theorem dX12_canGive_0 : decode cX12_canGive 0 = .ok (.iload_n 1, 1) := by decide +kernel
theorem dX12_canGive_1 : decode cX12_canGive 1 = .ok (.ifCond .le 25, 3) := by decide +kernel
theorem dX12_canGive_4 : decode cX12_canGive 4 = .ok (.iload_n 1, 1) := by decide +kernel
theorem dX12_canGive_5 : decode cX12_canGive 5 = .ok (.ldc_w 544, 3) := by decide +kernel
theorem dX12_canGive_8 : decode cX12_canGive 8 = .ok (.if_icmp .ge 18, 3) := by decide +kernel
theorem dX12_canGive_11 : decode cX12_canGive 11 = .ok (.iload_n 2, 1) := by decide +kernel
theorem dX12_canGive_12 : decode cX12_canGive 12 = .ok (.ifCond .le 14, 3) := by decide +kernel
theorem dX12_canGive_15 : decode cX12_canGive 15 = .ok (.iload_n 2, 1) := by decide +kernel
theorem dX12_canGive_16 : decode cX12_canGive 16 = .ok (.sipush 4096, 3) := by decide +kernel
theorem dX12_canGive_19 : decode cX12_canGive 19 = .ok (.if_icmp .ge 7, 3) := by decide +kernel
theorem dX12_canGive_22 : decode cX12_canGive 22 = .ok (.iconst 1, 1) := by decide +kernel
theorem dX12_canGive_23 : decode cX12_canGive 23 = .ok (.goto 4, 3) := by decide +kernel
theorem dX12_canGive_26 : decode cX12_canGive 26 = .ok (.iconst 0, 1) := by decide +kernel
theorem dX12_canGive_27 : decode cX12_canGive 27 = .ok (.istore 4, 2) := by decide +kernel
theorem dX12_canGive_29 : decode cX12_canGive 29 = .ok (.iload_n 1, 1) := by decide +kernel
theorem dX12_canGive_30 : decode cX12_canGive 30 = .ok (.invokestatic 545, 3) := by decide +kernel
theorem dX12_canGive_33 : decode cX12_canGive 33 = .ok (.bipush 7, 2) := by decide +kernel
theorem dX12_canGive_35 : decode cX12_canGive 35 = .ok (.if_icmp .gt 16, 3) := by decide +kernel
theorem dX12_canGive_38 : decode cX12_canGive 38 = .ok (.iload_n 2, 1) := by decide +kernel
theorem dX12_canGive_39 : decode cX12_canGive 39 = .ok (.invokestatic 545, 3) := by decide +kernel
theorem dX12_canGive_42 : decode cX12_canGive 42 = .ok (.bipush 6, 2) := by decide +kernel
theorem dX12_canGive_44 : decode cX12_canGive 44 = .ok (.if_icmp .gt 7, 3) := by decide +kernel
theorem dX12_canGive_47 : decode cX12_canGive 47 = .ok (.iconst 1, 1) := by decide +kernel
theorem dX12_canGive_48 : decode cX12_canGive 48 = .ok (.goto 4, 3) := by decide +kernel
theorem dX12_canGive_51 : decode cX12_canGive 51 = .ok (.iconst 0, 1) := by decide +kernel
theorem dX12_canGive_52 : decode cX12_canGive 52 = .ok (.istore 5, 2) := by decide +kernel
theorem dX12_canGive_54 : decode cX12_canGive 54 = .ok (.iload 4, 2) := by decide +kernel
theorem dX12_canGive_56 : decode cX12_canGive 56 = .ok (.ifCond .eq 24, 3) := by decide +kernel
theorem dX12_canGive_59 : decode cX12_canGive 59 = .ok (.iload 5, 2) := by decide +kernel
theorem dX12_canGive_61 : decode cX12_canGive 61 = .ok (.ifCond .eq 19, 3) := by decide +kernel
theorem dX12_canGive_64 : decode cX12_canGive 64 = .ok (.iload_n 3, 1) := by decide +kernel
theorem dX12_canGive_65 : decode cX12_canGive 65 = .ok (.iconst 1, 1) := by decide +kernel
theorem dX12_canGive_66 : decode cX12_canGive 66 = .ok (.if_icmp .lt 14, 3) := by decide +kernel
theorem dX12_canGive_69 : decode cX12_canGive 69 = .ok (.iload_n 3, 1) := by decide +kernel
theorem dX12_canGive_70 : decode cX12_canGive 70 = .ok (.sipush 400, 3) := by decide +kernel
theorem dX12_canGive_73 : decode cX12_canGive 73 = .ok (.if_icmp .gt 7, 3) := by decide +kernel
theorem dX12_canGive_76 : decode cX12_canGive 76 = .ok (.iconst 1, 1) := by decide +kernel
theorem dX12_canGive_77 : decode cX12_canGive 77 = .ok (.goto 4, 3) := by decide +kernel
theorem dX12_canGive_80 : decode cX12_canGive 80 = .ok (.iconst 0, 1) := by decide +kernel
theorem dX12_canGive_81 : decode cX12_canGive 81 = .ok (.ireturn, 1) := by decide +kernel
theorem dX12_addHands_0 : decode cX12_addHands 0 = .ok (.aload_n 0, 1) := by decide +kernel
theorem dX12_addHands_1 : decode cX12_addHands 1 = .ok (.getfield 92, 3) := by decide +kernel
theorem dX12_addHands_4 : decode cX12_addHands 4 = .ok (.invokevirtual 549, 3) := by decide +kernel
theorem dX12_addHands_7 : decode cX12_addHands 7 = .ok (.iconst 0, 1) := by decide +kernel
theorem dX12_addHands_8 : decode cX12_addHands 8 = .ok (.istore_n 3, 1) := by decide +kernel
theorem dX12_addHands_9 : decode cX12_addHands 9 = .ok (.iload_n 3, 1) := by decide +kernel
theorem dX12_addHands_10 : decode cX12_addHands 10 = .ok (.bipush 12, 2) := by decide +kernel
theorem dX12_addHands_12 : decode cX12_addHands 12 = .ok (.if_icmp .ge 49, 3) := by decide +kernel
theorem dX12_addHands_15 : decode cX12_addHands 15 = .ok (.iload_n 1, 1) := by decide +kernel
theorem dX12_addHands_16 : decode cX12_addHands 16 = .ok (.iload_n 3, 1) := by decide +kernel
theorem dX12_addHands_17 : decode cX12_addHands 17 = .ok (.ishr, 1) := by decide +kernel
theorem dX12_addHands_18 : decode cX12_addHands 18 = .ok (.iconst 1, 1) := by decide +kernel
theorem dX12_addHands_19 : decode cX12_addHands 19 = .ok (.iand, 1) := by decide +kernel
theorem dX12_addHands_20 : decode cX12_addHands 20 = .ok (.ifCond .ne 6, 3) := by decide +kernel
theorem dX12_addHands_23 : decode cX12_addHands 23 = .ok (.goto 32, 3) := by decide +kernel
theorem dX12_addHands_26 : decode cX12_addHands 26 = .ok (.aload_n 0, 1) := by decide +kernel
theorem dX12_addHands_27 : decode cX12_addHands 27 = .ok (.iload_n 3, 1) := by decide +kernel
theorem dX12_addHands_28 : decode cX12_addHands 28 = .ok (.invokevirtual 316, 3) := by decide +kernel
theorem dX12_addHands_31 : decode cX12_addHands 31 = .ok (.astore 4, 2) := by decide +kernel
theorem dX12_addHands_33 : decode cX12_addHands 33 = .ok (.aload 4, 2) := by decide +kernel
theorem dX12_addHands_35 : decode cX12_addHands 35 = .ok (.ifnonnull 5, 3) := by decide +kernel
theorem dX12_addHands_38 : decode cX12_addHands 38 = .ok (.iconst 0, 1) := by decide +kernel
theorem dX12_addHands_39 : decode cX12_addHands 39 = .ok (.ireturn, 1) := by decide +kernel
theorem dX12_addHands_40 : decode cX12_addHands 40 = .ok (.aload_n 0, 1) := by decide +kernel
theorem dX12_addHands_41 : decode cX12_addHands 41 = .ok (.getfield 92, 3) := by decide +kernel
theorem dX12_addHands_44 : decode cX12_addHands 44 = .ok (.iload_n 3, 1) := by decide +kernel
theorem dX12_addHands_45 : decode cX12_addHands 45 = .ok (.aload 4, 2) := by decide +kernel
theorem dX12_addHands_47 : decode cX12_addHands 47 = .ok (.getfield 358, 3) := by decide +kernel
theorem dX12_addHands_50 : decode cX12_addHands 50 = .ok (.iload_n 2, 1) := by decide +kernel
theorem dX12_addHands_51 : decode cX12_addHands 51 = .ok (.imul, 1) := by decide +kernel
theorem dX12_addHands_52 : decode cX12_addHands 52 = .ok (.invokevirtual 550, 3) := by decide +kernel
theorem dX12_addHands_55 : decode cX12_addHands 55 = .ok (.iinc 3 1, 3) := by decide +kernel
theorem dX12_addHands_58 : decode cX12_addHands 58 = .ok (.goto (-49), 3) := by decide +kernel
theorem dX12_addHands_61 : decode cX12_addHands 61 = .ok (.iconst 1, 1) := by decide +kernel
theorem dX12_addHands_62 : decode cX12_addHands 62 = .ok (.ireturn, 1) := by decide +kernel
theorem dX12_addArticles_0 : decode cX12_addArticles 0 = .ok (.iconst 0, 1) := by decide +kernel
theorem dX12_addArticles_1 : decode cX12_addArticles 1 = .ok (.istore_n 2, 1) := by decide +kernel
theorem dX12_addArticles_2 : decode cX12_addArticles 2 = .ok (.iload_n 2, 1) := by decide +kernel
theorem dX12_addArticles_3 : decode cX12_addArticles 3 = .ok (.bipush 30, 2) := by decide +kernel
theorem dX12_addArticles_5 : decode cX12_addArticles 5 = .ok (.if_icmp .ge 131, 3) := by decide +kernel
theorem dX12_addArticles_8 : decode cX12_addArticles 8 = .ok (.iload_n 1, 1) := by decide +kernel
theorem dX12_addArticles_9 : decode cX12_addArticles 9 = .ok (.iload_n 2, 1) := by decide +kernel
theorem dX12_addArticles_10 : decode cX12_addArticles 10 = .ok (.ishr, 1) := by decide +kernel
theorem dX12_addArticles_11 : decode cX12_addArticles 11 = .ok (.iconst 1, 1) := by decide +kernel
theorem dX12_addArticles_12 : decode cX12_addArticles 12 = .ok (.iand, 1) := by decide +kernel
theorem dX12_addArticles_13 : decode cX12_addArticles 13 = .ok (.ifCond .ne 6, 3) := by decide +kernel
theorem dX12_addArticles_16 : decode cX12_addArticles 16 = .ok (.goto 114, 3) := by decide +kernel
theorem dX12_addArticles_19 : decode cX12_addArticles 19 = .ok (.aload_n 0, 1) := by decide +kernel
theorem dX12_addArticles_20 : decode cX12_addArticles 20 = .ok (.iload_n 2, 1) := by decide +kernel
theorem dX12_addArticles_21 : decode cX12_addArticles 21 = .ok (.iconst 0, 1) := by decide +kernel
theorem dX12_addArticles_22 : decode cX12_addArticles 22 = .ok (.invokevirtual 243, 3) := by decide +kernel
theorem dX12_addArticles_25 : decode cX12_addArticles 25 = .ok (.astore_n 3, 1) := by decide +kernel
theorem dX12_addArticles_26 : decode cX12_addArticles 26 = .ok (.aload_n 3, 1) := by decide +kernel
theorem dX12_addArticles_27 : decode cX12_addArticles 27 = .ok (.ifnull 37, 3) := by decide +kernel
theorem dX12_addArticles_30 : decode cX12_addArticles 30 = .ok (.aload_n 3, 1) := by decide +kernel
theorem dX12_addArticles_31 : decode cX12_addArticles 31 = .ok (.invokevirtual 306, 3) := by decide +kernel
theorem dX12_addArticles_34 : decode cX12_addArticles 34 = .ok (.ifCond .ne 30, 3) := by decide +kernel
theorem dX12_addArticles_37 : decode cX12_addArticles 37 = .ok (.aload_n 0, 1) := by decide +kernel
theorem dX12_addArticles_38 : decode cX12_addArticles 38 = .ok (.aload_n 3, 1) := by decide +kernel
theorem dX12_addArticles_39 : decode cX12_addArticles 39 = .ok (.invokevirtual 319, 3) := by decide +kernel
theorem dX12_addArticles_42 : decode cX12_addArticles 42 = .ok (.ifCond .ne 22, 3) := by decide +kernel
theorem dX12_addArticles_45 : decode cX12_addArticles 45 = .ok (.aload_n 3, 1) := by decide +kernel
theorem dX12_addArticles_46 : decode cX12_addArticles 46 = .ok (.getfield 247, 3) := by decide +kernel
theorem dX12_addArticles_49 : decode cX12_addArticles 49 = .ok (.iconst (-1), 1) := by decide +kernel
theorem dX12_addArticles_50 : decode cX12_addArticles 50 = .ok (.if_icmp .ne 14, 3) := by decide +kernel
theorem dX12_addArticles_53 : decode cX12_addArticles 53 = .ok (.aload_n 0, 1) := by decide +kernel
theorem dX12_addArticles_54 : decode cX12_addArticles 54 = .ok (.aload_n 3, 1) := by decide +kernel
theorem dX12_addArticles_55 : decode cX12_addArticles 55 = .ok (.getfield 313, 3) := by decide +kernel
theorem dX12_addArticles_58 : decode cX12_addArticles 58 = .ok (.invokevirtual 316, 3) := by decide +kernel
theorem dX12_addArticles_61 : decode cX12_addArticles 61 = .ok (.ifnull 5, 3) := by decide +kernel
theorem dX12_addArticles_64 : decode cX12_addArticles 64 = .ok (.iconst 0, 1) := by decide +kernel
theorem dX12_addArticles_65 : decode cX12_addArticles 65 = .ok (.ireturn, 1) := by decide +kernel
theorem dX12_addArticles_66 : decode cX12_addArticles 66 = .ok (.aload_n 0, 1) := by decide +kernel
theorem dX12_addArticles_67 : decode cX12_addArticles 67 = .ok (.getfield 92, 3) := by decide +kernel
theorem dX12_addArticles_70 : decode cX12_addArticles 70 = .ok (.iload_n 2, 1) := by decide +kernel
theorem dX12_addArticles_71 : decode cX12_addArticles 71 = .ok (.aload_n 3, 1) := by decide +kernel
theorem dX12_addArticles_72 : decode cX12_addArticles 72 = .ok (.getfield 183, 3) := by decide +kernel
theorem dX12_addArticles_75 : decode cX12_addArticles 75 = .ok (.aload_n 3, 1) := by decide +kernel
theorem dX12_addArticles_76 : decode cX12_addArticles 76 = .ok (.getfield 342, 3) := by decide +kernel
theorem dX12_addArticles_79 : decode cX12_addArticles 79 = .ok (.isub, 1) := by decide +kernel
theorem dX12_addArticles_80 : decode cX12_addArticles 80 = .ok (.invokevirtual 553, 3) := by decide +kernel
theorem dX12_addArticles_83 : decode cX12_addArticles 83 = .ok (.iconst 0, 1) := by decide +kernel
theorem dX12_addArticles_84 : decode cX12_addArticles 84 = .ok (.istore 4, 2) := by decide +kernel
theorem dX12_addArticles_86 : decode cX12_addArticles 86 = .ok (.iload 4, 2) := by decide +kernel
theorem dX12_addArticles_88 : decode cX12_addArticles 88 = .ok (.aload_n 0, 1) := by decide +kernel
theorem dX12_addArticles_89 : decode cX12_addArticles 89 = .ok (.getfield 92, 3) := by decide +kernel
theorem dX12_addArticles_92 : decode cX12_addArticles 92 = .ok (.getfield 556, 3) := by decide +kernel
theorem dX12_addArticles_95 : decode cX12_addArticles 95 = .ok (.if_icmp .ge 35, 3) := by decide +kernel
theorem dX12_addArticles_98 : decode cX12_addArticles 98 = .ok (.aload_n 0, 1) := by decide +kernel
theorem dX12_addArticles_99 : decode cX12_addArticles 99 = .ok (.aload_n 3, 1) := by decide +kernel
theorem dX12_addArticles_100 : decode cX12_addArticles 100 = .ok (.aload_n 0, 1) := by decide +kernel
theorem dX12_addArticles_101 : decode cX12_addArticles 101 = .ok (.getfield 92, 3) := by decide +kernel
theorem dX12_addArticles_104 : decode cX12_addArticles 104 = .ok (.iload 4, 2) := by decide +kernel
theorem dX12_addArticles_106 : decode cX12_addArticles 106 = .ok (.invokevirtual 557, 3) := by decide +kernel
theorem dX12_addArticles_109 : decode cX12_addArticles 109 = .ok (.invokevirtual 309, 3) := by decide +kernel
theorem dX12_addArticles_112 : decode cX12_addArticles 112 = .ok (.ifCond .eq 12, 3) := by decide +kernel
theorem dX12_addArticles_115 : decode cX12_addArticles 115 = .ok (.aload_n 0, 1) := by decide +kernel
theorem dX12_addArticles_116 : decode cX12_addArticles 116 = .ok (.getfield 92, 3) := by decide +kernel
theorem dX12_addArticles_119 : decode cX12_addArticles 119 = .ok (.iload 4, 2) := by decide +kernel
theorem dX12_addArticles_121 : decode cX12_addArticles 121 = .ok (.invokevirtual 560, 3) := by decide +kernel
theorem dX12_addArticles_124 : decode cX12_addArticles 124 = .ok (.iinc 4 1, 3) := by decide +kernel
theorem dX12_addArticles_127 : decode cX12_addArticles 127 = .ok (.goto (-41), 3) := by decide +kernel
theorem dX12_addArticles_130 : decode cX12_addArticles 130 = .ok (.iinc 2 1, 3) := by decide +kernel
theorem dX12_addArticles_133 : decode cX12_addArticles 133 = .ok (.goto (-131), 3) := by decide +kernel
theorem dX12_addArticles_136 : decode cX12_addArticles 136 = .ok (.iconst 1, 1) := by decide +kernel
theorem dX12_addArticles_137 : decode cX12_addArticles 137 = .ok (.ireturn, 1) := by decide +kernel
theorem dX12_index_0 : decode cX12_index 0 = .ok (.aload_n 0, 1) := by decide +kernel
theorem dX12_index_1 : decode cX12_index 1 = .ok (.iload_n 2, 1) := by decide +kernel
theorem dX12_index_2 : decode cX12_index 2 = .ok (.invokevirtual 494, 3) := by decide +kernel
theorem dX12_index_5 : decode cX12_index 5 = .ok (.astore 4, 2) := by decide +kernel
theorem dX12_index_7 : decode cX12_index 7 = .ok (.aload 4, 2) := by decide +kernel
theorem dX12_index_9 : decode cX12_index 9 = .ok (.ifnull 7, 3) := by decide +kernel
theorem dX12_index_12 : decode cX12_index 12 = .ok (.iload_n 3, 1) := by decide +kernel
theorem dX12_index_13 : decode cX12_index 13 = .ok (.ifCond .ge 5, 3) := by decide +kernel
theorem dX12_index_16 : decode cX12_index 16 = .ok (.iconst (-1), 1) := by decide +kernel
theorem dX12_index_17 : decode cX12_index 17 = .ok (.ireturn, 1) := by decide +kernel
theorem dX12_index_18 : decode cX12_index 18 = .ok (.iconst (-1), 1) := by decide +kernel
theorem dX12_index_19 : decode cX12_index 19 = .ok (.istore 5, 2) := by decide +kernel
theorem dX12_index_21 : decode cX12_index 21 = .ok (.iconst 0, 1) := by decide +kernel
theorem dX12_index_22 : decode cX12_index 22 = .ok (.istore 6, 2) := by decide +kernel
theorem dX12_index_24 : decode cX12_index 24 = .ok (.iconst 0, 1) := by decide +kernel
theorem dX12_index_25 : decode cX12_index 25 = .ok (.istore 7, 2) := by decide +kernel
theorem dX12_index_27 : decode cX12_index 27 = .ok (.iload 7, 2) := by decide +kernel
theorem dX12_index_29 : decode cX12_index 29 = .ok (.aload 4, 2) := by decide +kernel
theorem dX12_index_31 : decode cX12_index 31 = .ok (.getfield 563, 3) := by decide +kernel
theorem dX12_index_34 : decode cX12_index 34 = .ok (.if_icmp .ge 76, 3) := by decide +kernel
theorem dX12_index_37 : decode cX12_index 37 = .ok (.aload_n 0, 1) := by decide +kernel
theorem dX12_index_38 : decode cX12_index 38 = .ok (.aload 4, 2) := by decide +kernel
theorem dX12_index_40 : decode cX12_index 40 = .ok (.iload 7, 2) := by decide +kernel
theorem dX12_index_42 : decode cX12_index 42 = .ok (.invokevirtual 566, 3) := by decide +kernel
theorem dX12_index_45 : decode cX12_index 45 = .ok (.invokevirtual 392, 3) := by decide +kernel
theorem dX12_index_48 : decode cX12_index 48 = .ok (.astore 8, 2) := by decide +kernel
theorem dX12_index_50 : decode cX12_index 50 = .ok (.aload 8, 2) := by decide +kernel
theorem dX12_index_52 : decode cX12_index 52 = .ok (.ifnull 52, 3) := by decide +kernel
theorem dX12_index_55 : decode cX12_index 55 = .ok (.aload 8, 2) := by decide +kernel
theorem dX12_index_57 : decode cX12_index 57 = .ok (.getfield 569, 3) := by decide +kernel
theorem dX12_index_60 : decode cX12_index 60 = .ok (.iload_n 1, 1) := by decide +kernel
theorem dX12_index_61 : decode cX12_index 61 = .ok (.if_icmp .ne 43, 3) := by decide +kernel
theorem dX12_index_64 : decode cX12_index 64 = .ok (.aload_n 0, 1) := by decide +kernel
theorem dX12_index_65 : decode cX12_index 65 = .ok (.aload 8, 2) := by decide +kernel
theorem dX12_index_67 : decode cX12_index 67 = .ok (.getfield 436, 3) := by decide +kernel
theorem dX12_index_70 : decode cX12_index 70 = .ok (.invokevirtual 439, 3) := by decide +kernel
theorem dX12_index_73 : decode cX12_index 73 = .ok (.iload 5, 2) := by decide +kernel
theorem dX12_index_75 : decode cX12_index 75 = .ok (.if_icmp .ne 6, 3) := by decide +kernel
theorem dX12_index_78 : decode cX12_index 78 = .ok (.goto 26, 3) := by decide +kernel
theorem dX12_index_81 : decode cX12_index 81 = .ok (.aload_n 0, 1) := by decide +kernel
theorem dX12_index_82 : decode cX12_index 82 = .ok (.aload 8, 2) := by decide +kernel
theorem dX12_index_84 : decode cX12_index 84 = .ok (.getfield 436, 3) := by decide +kernel
theorem dX12_index_87 : decode cX12_index 87 = .ok (.invokevirtual 439, 3) := by decide +kernel
theorem dX12_index_90 : decode cX12_index 90 = .ok (.istore 5, 2) := by decide +kernel
theorem dX12_index_92 : decode cX12_index 92 = .ok (.iload 6, 2) := by decide +kernel
theorem dX12_index_94 : decode cX12_index 94 = .ok (.iload_n 3, 1) := by decide +kernel
theorem dX12_index_95 : decode cX12_index 95 = .ok (.if_icmp .ne 6, 3) := by decide +kernel
theorem dX12_index_98 : decode cX12_index 98 = .ok (.iload 5, 2) := by decide +kernel
theorem dX12_index_100 : decode cX12_index 100 = .ok (.ireturn, 1) := by decide +kernel
theorem dX12_index_101 : decode cX12_index 101 = .ok (.iinc 6 1, 3) := by decide +kernel
theorem dX12_index_104 : decode cX12_index 104 = .ok (.iinc 7 1, 3) := by decide +kernel
theorem dX12_index_107 : decode cX12_index 107 = .ok (.goto (-80), 3) := by decide +kernel
theorem dX12_index_110 : decode cX12_index 110 = .ok (.iconst (-1), 1) := by decide +kernel
theorem dX12_index_111 : decode cX12_index 111 = .ok (.ireturn, 1) := by decide +kernel
theorem dX12_steal_0 : decode cX12_steal 0 = .ok (.iload_n 1, 1) := by decide +kernel
theorem dX12_steal_1 : decode cX12_steal 1 = .ok (.ifCond .lt 10, 3) := by decide +kernel
theorem dX12_steal_4 : decode cX12_steal 4 = .ok (.iload_n 1, 1) := by decide +kernel
theorem dX12_steal_5 : decode cX12_steal 5 = .ok (.sipush 999, 3) := by decide +kernel
theorem dX12_steal_8 : decode cX12_steal 8 = .ok (.if_icmp .le 7, 3) := by decide +kernel
theorem dX12_steal_11 : decode cX12_steal 11 = .ok (.iconst (-1), 1) := by decide +kernel
theorem dX12_steal_12 : decode cX12_steal 12 = .ok (.goto 11, 3) := by decide +kernel
theorem dX12_steal_15 : decode cX12_steal 15 = .ok (.aload_n 0, 1) := by decide +kernel
theorem dX12_steal_16 : decode cX12_steal 16 = .ok (.getfield 99, 3) := by decide +kernel
theorem dX12_steal_19 : decode cX12_steal 19 = .ok (.iload_n 1, 1) := by decide +kernel
theorem dX12_steal_20 : decode cX12_steal 20 = .ok (.invokevirtual 572, 3) := by decide +kernel
theorem dX12_steal_23 : decode cX12_steal 23 = .ok (.ireturn, 1) := by decide +kernel
theorem dX12_forget_0 : decode cX12_forget 0 = .ok (.aload_n 0, 1) := by decide +kernel
theorem dX12_forget_1 : decode cX12_forget 1 = .ok (.getfield 99, 3) := by decide +kernel
theorem dX12_forget_4 : decode cX12_forget 4 = .ok (.getfield 574, 3) := by decide +kernel
theorem dX12_forget_7 : decode cX12_forget 7 = .ok (.istore_n 1, 1) := by decide +kernel
theorem dX12_forget_8 : decode cX12_forget 8 = .ok (.aload_n 0, 1) := by decide +kernel
theorem dX12_forget_9 : decode cX12_forget 9 = .ok (.getfield 99, 3) := by decide +kernel
theorem dX12_forget_12 : decode cX12_forget 12 = .ok (.iconst 0, 1) := by decide +kernel
theorem dX12_forget_13 : decode cX12_forget 13 = .ok (.putfield 574, 3) := by decide +kernel
theorem dX12_forget_16 : decode cX12_forget 16 = .ok (.iload_n 1, 1) := by decide +kernel
theorem dX12_forget_17 : decode cX12_forget 17 = .ok (.ireturn, 1) := by decide +kernel
theorem dX12_thief_0 : decode cX12_thief 0 = .ok (.aload_n 0, 1) := by decide +kernel
theorem dX12_thief_1 : decode cX12_thief 1 = .ok (.iload_n 1, 1) := by decide +kernel
theorem dX12_thief_2 : decode cX12_thief 2 = .ok (.invokevirtual 494, 3) := by decide +kernel
theorem dX12_thief_5 : decode cX12_thief 5 = .ok (.astore_n 3, 1) := by decide +kernel
theorem dX12_thief_6 : decode cX12_thief 6 = .ok (.aload_n 3, 1) := by decide +kernel
theorem dX12_thief_7 : decode cX12_thief 7 = .ok (.ifnull 12, 3) := by decide +kernel
theorem dX12_thief_10 : decode cX12_thief 10 = .ok (.iload_n 2, 1) := by decide +kernel
theorem dX12_thief_11 : decode cX12_thief 11 = .ok (.ifCond .lt 8, 3) := by decide +kernel
theorem dX12_thief_14 : decode cX12_thief 14 = .ok (.iload_n 2, 1) := by decide +kernel
theorem dX12_thief_15 : decode cX12_thief 15 = .ok (.iconst 1, 1) := by decide +kernel
theorem dX12_thief_16 : decode cX12_thief 16 = .ok (.if_icmp .le 5, 3) := by decide +kernel
theorem dX12_thief_19 : decode cX12_thief 19 = .ok (.iconst (-1), 1) := by decide +kernel
theorem dX12_thief_20 : decode cX12_thief 20 = .ok (.ireturn, 1) := by decide +kernel
theorem dX12_thief_21 : decode cX12_thief 21 = .ok (.aload_n 0, 1) := by decide +kernel
theorem dX12_thief_22 : decode cX12_thief 22 = .ok (.getfield 99, 3) := by decide +kernel
theorem dX12_thief_25 : decode cX12_thief 25 = .ok (.invokevirtual 575, 3) := by decide +kernel
theorem dX12_thief_28 : decode cX12_thief 28 = .ok (.iconst 0, 1) := by decide +kernel
theorem dX12_thief_29 : decode cX12_thief 29 = .ok (.istore 4, 2) := by decide +kernel
theorem dX12_thief_31 : decode cX12_thief 31 = .ok (.iload 4, 2) := by decide +kernel
theorem dX12_thief_33 : decode cX12_thief 33 = .ok (.aload_n 3, 1) := by decide +kernel
theorem dX12_thief_34 : decode cX12_thief 34 = .ok (.getfield 563, 3) := by decide +kernel
theorem dX12_thief_37 : decode cX12_thief 37 = .ok (.if_icmp .ge 76, 3) := by decide +kernel
theorem dX12_thief_40 : decode cX12_thief 40 = .ok (.aload_n 0, 1) := by decide +kernel
theorem dX12_thief_41 : decode cX12_thief 41 = .ok (.aload_n 3, 1) := by decide +kernel
theorem dX12_thief_42 : decode cX12_thief 42 = .ok (.iload 4, 2) := by decide +kernel
theorem dX12_thief_44 : decode cX12_thief 44 = .ok (.invokevirtual 566, 3) := by decide +kernel
theorem dX12_thief_47 : decode cX12_thief 47 = .ok (.invokevirtual 392, 3) := by decide +kernel
theorem dX12_thief_50 : decode cX12_thief 50 = .ok (.astore 5, 2) := by decide +kernel
theorem dX12_thief_52 : decode cX12_thief 52 = .ok (.aload 5, 2) := by decide +kernel
theorem dX12_thief_54 : decode cX12_thief 54 = .ok (.ifnull 53, 3) := by decide +kernel
theorem dX12_thief_57 : decode cX12_thief 57 = .ok (.aload 5, 2) := by decide +kernel
theorem dX12_thief_59 : decode cX12_thief 59 = .ok (.getfield 385, 3) := by decide +kernel
theorem dX12_thief_62 : decode cX12_thief 62 = .ok (.iconst (-1), 1) := by decide +kernel
theorem dX12_thief_63 : decode cX12_thief 63 = .ok (.if_icmp .eq 44, 3) := by decide +kernel
theorem dX12_thief_66 : decode cX12_thief 66 = .ok (.aload_n 0, 1) := by decide +kernel
theorem dX12_thief_67 : decode cX12_thief 67 = .ok (.getfield 99, 3) := by decide +kernel
theorem dX12_thief_70 : decode cX12_thief 70 = .ok (.aload 5, 2) := by decide +kernel
theorem dX12_thief_72 : decode cX12_thief 72 = .ok (.getfield 399, 3) := by decide +kernel
theorem dX12_thief_75 : decode cX12_thief 75 = .ok (.aload_n 0, 1) := by decide +kernel
theorem dX12_thief_76 : decode cX12_thief 76 = .ok (.getfield 66, 3) := by decide +kernel
theorem dX12_thief_79 : decode cX12_thief 79 = .ok (.aload 5, 2) := by decide +kernel
theorem dX12_thief_81 : decode cX12_thief 81 = .ok (.getfield 385, 3) := by decide +kernel
theorem dX12_thief_84 : decode cX12_thief 84 = .ok (.aload_n 0, 1) := by decide +kernel
theorem dX12_thief_85 : decode cX12_thief 85 = .ok (.getfield 133, 3) := by decide +kernel
theorem dX12_thief_88 : decode cX12_thief 88 = .ok (.invokevirtual 389, 3) := by decide +kernel
theorem dX12_thief_91 : decode cX12_thief 91 = .ok (.aload 5, 2) := by decide +kernel
theorem dX12_thief_93 : decode cX12_thief 93 = .ok (.getfield 399, 3) := by decide +kernel
theorem dX12_thief_96 : decode cX12_thief 96 = .ok (.if_icmp .eq 7, 3) := by decide +kernel
theorem dX12_thief_99 : decode cX12_thief 99 = .ok (.iconst 1, 1) := by decide +kernel
theorem dX12_thief_100 : decode cX12_thief 100 = .ok (.goto 4, 3) := by decide +kernel
theorem dX12_thief_103 : decode cX12_thief 103 = .ok (.iconst 0, 1) := by decide +kernel
theorem dX12_thief_104 : decode cX12_thief 104 = .ok (.invokevirtual 576, 3) := by decide +kernel
theorem dX12_thief_107 : decode cX12_thief 107 = .ok (.iinc 4 1, 3) := by decide +kernel
theorem dX12_thief_110 : decode cX12_thief 110 = .ok (.goto (-79), 3) := by decide +kernel
theorem dX12_thief_113 : decode cX12_thief 113 = .ok (.iload_n 2, 1) := by decide +kernel
theorem dX12_thief_114 : decode cX12_thief 114 = .ok (.ifCond .ne 13, 3) := by decide +kernel
theorem dX12_thief_117 : decode cX12_thief 117 = .ok (.aload_n 0, 1) := by decide +kernel
theorem dX12_thief_118 : decode cX12_thief 118 = .ok (.getfield 99, 3) := by decide +kernel
theorem dX12_thief_121 : decode cX12_thief 121 = .ok (.invokevirtual 580, 3) := by decide +kernel
theorem dX12_thief_124 : decode cX12_thief 124 = .ok (.goto 10, 3) := by decide +kernel
theorem dX12_thief_127 : decode cX12_thief 127 = .ok (.aload_n 0, 1) := by decide +kernel
theorem dX12_thief_128 : decode cX12_thief 128 = .ok (.getfield 99, 3) := by decide +kernel
theorem dX12_thief_131 : decode cX12_thief 131 = .ok (.invokevirtual 583, 3) := by decide +kernel
theorem dX12_thief_134 : decode cX12_thief 134 = .ok (.ireturn, 1) := by decide +kernel
theorem dX12_is_0 : decode cX12_is 0 = .ok (.aload_n 0, 1) := by decide +kernel
theorem dX12_is_1 : decode cX12_is 1 = .ok (.iload_n 1, 1) := by decide +kernel
theorem dX12_is_2 : decode cX12_is 2 = .ok (.invokevirtual 189, 3) := by decide +kernel
theorem dX12_is_5 : decode cX12_is 5 = .ok (.astore_n 3, 1) := by decide +kernel
theorem dX12_is_6 : decode cX12_is 6 = .ok (.aload_n 3, 1) := by decide +kernel
theorem dX12_is_7 : decode cX12_is 7 = .ok (.ifnonnull 5, 3) := by decide +kernel
theorem dX12_is_10 : decode cX12_is 10 = .ok (.iconst (-1), 1) := by decide +kernel
theorem dX12_is_11 : decode cX12_is 11 = .ok (.ireturn, 1) := by decide +kernel
theorem dX12_is_12 : decode cX12_is 12 = .ok (.iload_n 2, 1) := by decide +kernel
theorem dX12_is_13 : decode cX12_is 13 = .ok (.tableswitch 116 0 9 #[55, 116, 116, 116, 60, 116, 116, 65, 116, 91], 55) := by decide +kernel
theorem dX12_is_68 : decode cX12_is 68 = .ok (.aload_n 3, 1) := by decide +kernel
theorem dX12_is_69 : decode cX12_is 69 = .ok (.getfield 240, 3) := by decide +kernel
theorem dX12_is_72 : decode cX12_is 72 = .ok (.ireturn, 1) := by decide +kernel
theorem dX12_is_73 : decode cX12_is 73 = .ok (.aload_n 3, 1) := by decide +kernel
theorem dX12_is_74 : decode cX12_is 74 = .ok (.getfield 342, 3) := by decide +kernel
theorem dX12_is_77 : decode cX12_is 77 = .ok (.ireturn, 1) := by decide +kernel
theorem dX12_is_78 : decode cX12_is 78 = .ok (.aload_n 0, 1) := by decide +kernel
theorem dX12_is_79 : decode cX12_is 79 = .ok (.aload_n 3, 1) := by decide +kernel
theorem dX12_is_80 : decode cX12_is 80 = .ok (.invokevirtual 319, 3) := by decide +kernel
theorem dX12_is_83 : decode cX12_is 83 = .ok (.ifCond .eq 7, 3) := by decide +kernel
theorem dX12_is_86 : decode cX12_is 86 = .ok (.iconst 1, 1) := by decide +kernel
theorem dX12_is_87 : decode cX12_is 87 = .ok (.goto 16, 3) := by decide +kernel
theorem dX12_is_90 : decode cX12_is 90 = .ok (.aload_n 0, 1) := by decide +kernel
theorem dX12_is_91 : decode cX12_is 91 = .ok (.aload_n 3, 1) := by decide +kernel
theorem dX12_is_92 : decode cX12_is 92 = .ok (.invokevirtual 256, 3) := by decide +kernel
theorem dX12_is_95 : decode cX12_is 95 = .ok (.ifCond .eq 7, 3) := by decide +kernel
theorem dX12_is_98 : decode cX12_is 98 = .ok (.iconst 2, 1) := by decide +kernel
theorem dX12_is_99 : decode cX12_is 99 = .ok (.goto 4, 3) := by decide +kernel
theorem dX12_is_102 : decode cX12_is 102 = .ok (.iconst 0, 1) := by decide +kernel
theorem dX12_is_103 : decode cX12_is 103 = .ok (.ireturn, 1) := by decide +kernel
theorem dX12_is_104 : decode cX12_is 104 = .ok (.aload_n 3, 1) := by decide +kernel
theorem dX12_is_105 : decode cX12_is 105 = .ok (.getfield 247, 3) := by decide +kernel
theorem dX12_is_108 : decode cX12_is 108 = .ok (.iconst (-1), 1) := by decide +kernel
theorem dX12_is_109 : decode cX12_is 109 = .ok (.if_icmp .ne 14, 3) := by decide +kernel
theorem dX12_is_112 : decode cX12_is 112 = .ok (.aload_n 0, 1) := by decide +kernel
theorem dX12_is_113 : decode cX12_is 113 = .ok (.aload_n 3, 1) := by decide +kernel
theorem dX12_is_114 : decode cX12_is 114 = .ok (.getfield 220, 3) := by decide +kernel
theorem dX12_is_117 : decode cX12_is 117 = .ok (.invokevirtual 130, 3) := by decide +kernel
theorem dX12_is_120 : decode cX12_is 120 = .ok (.ifCond .eq 7, 3) := by decide +kernel
theorem dX12_is_123 : decode cX12_is 123 = .ok (.iconst 1, 1) := by decide +kernel
theorem dX12_is_124 : decode cX12_is 124 = .ok (.goto 4, 3) := by decide +kernel
theorem dX12_is_127 : decode cX12_is 127 = .ok (.iconst 0, 1) := by decide +kernel
theorem dX12_is_128 : decode cX12_is 128 = .ok (.ireturn, 1) := by decide +kernel
theorem dX12_is_129 : decode cX12_is 129 = .ok (.aload_n 3, 1) := by decide +kernel
theorem dX12_is_130 : decode cX12_is 130 = .ok (.getfield 240, 3) := by decide +kernel
theorem dX12_is_133 : decode cX12_is 133 = .ok (.ifCond .ne 12, 3) := by decide +kernel
theorem dX12_is_136 : decode cX12_is 136 = .ok (.aload_n 0, 1) := by decide +kernel
theorem dX12_is_137 : decode cX12_is 137 = .ok (.aload_n 3, 1) := by decide +kernel
theorem dX12_is_138 : decode cX12_is 138 = .ok (.iload_n 2, 1) := by decide +kernel
theorem dX12_is_139 : decode cX12_is 139 = .ok (.invokevirtual 586, 3) := by decide +kernel
theorem dX12_is_142 : decode cX12_is 142 = .ok (.goto 4, 3) := by decide +kernel
theorem dX12_is_145 : decode cX12_is 145 = .ok (.iconst (-1), 1) := by decide +kernel
theorem dX12_is_146 : decode cX12_is 146 = .ok (.ireturn, 1) := by decide +kernel
theorem dX12_ofArticle_0 : decode cX12_ofArticle 0 = .ok (.iload_n 2, 1) := by decide +kernel
theorem dX12_ofArticle_1 : decode cX12_ofArticle 1 = .ok (.tableswitch 94 1 8 #[47, 52, 57, 94, 62, 67, 94, 80], 47) := by decide +kernel
theorem dX12_ofArticle_48 : decode cX12_ofArticle 48 = .ok (.aload_n 1, 1) := by decide +kernel
theorem dX12_ofArticle_49 : decode cX12_ofArticle 49 = .ok (.getfield 177, 3) := by decide +kernel
theorem dX12_ofArticle_52 : decode cX12_ofArticle 52 = .ok (.ireturn, 1) := by decide +kernel
theorem dX12_ofArticle_53 : decode cX12_ofArticle 53 = .ok (.aload_n 1, 1) := by decide +kernel
theorem dX12_ofArticle_54 : decode cX12_ofArticle 54 = .ok (.getfield 180, 3) := by decide +kernel
theorem dX12_ofArticle_57 : decode cX12_ofArticle 57 = .ok (.ireturn, 1) := by decide +kernel
theorem dX12_ofArticle_58 : decode cX12_ofArticle 58 = .ok (.aload_n 1, 1) := by decide +kernel
theorem dX12_ofArticle_59 : decode cX12_ofArticle 59 = .ok (.getfield 183, 3) := by decide +kernel
theorem dX12_ofArticle_62 : decode cX12_ofArticle 62 = .ok (.ireturn, 1) := by decide +kernel
theorem dX12_ofArticle_63 : decode cX12_ofArticle 63 = .ok (.aload_n 1, 1) := by decide +kernel
theorem dX12_ofArticle_64 : decode cX12_ofArticle 64 = .ok (.getfield 313, 3) := by decide +kernel
theorem dX12_ofArticle_67 : decode cX12_ofArticle 67 = .ok (.ireturn, 1) := by decide +kernel
theorem dX12_ofArticle_68 : decode cX12_ofArticle 68 = .ok (.aload_n 1, 1) := by decide +kernel
theorem dX12_ofArticle_69 : decode cX12_ofArticle 69 = .ok (.invokevirtual 306, 3) := by decide +kernel
theorem dX12_ofArticle_72 : decode cX12_ofArticle 72 = .ok (.ifCond .eq 7, 3) := by decide +kernel
theorem dX12_ofArticle_75 : decode cX12_ofArticle 75 = .ok (.iconst 1, 1) := by decide +kernel
theorem dX12_ofArticle_76 : decode cX12_ofArticle 76 = .ok (.goto 4, 3) := by decide +kernel
theorem dX12_ofArticle_79 : decode cX12_ofArticle 79 = .ok (.iconst 0, 1) := by decide +kernel
theorem dX12_ofArticle_80 : decode cX12_ofArticle 80 = .ok (.ireturn, 1) := by decide +kernel
theorem dX12_ofArticle_81 : decode cX12_ofArticle 81 = .ok (.aload_n 0, 1) := by decide +kernel
theorem dX12_ofArticle_82 : decode cX12_ofArticle 82 = .ok (.aload_n 1, 1) := by decide +kernel
theorem dX12_ofArticle_83 : decode cX12_ofArticle 83 = .ok (.invokevirtual 405, 3) := by decide +kernel
theorem dX12_ofArticle_86 : decode cX12_ofArticle 86 = .ok (.ifCond .eq 7, 3) := by decide +kernel
theorem dX12_ofArticle_89 : decode cX12_ofArticle 89 = .ok (.iconst 1, 1) := by decide +kernel
theorem dX12_ofArticle_90 : decode cX12_ofArticle 90 = .ok (.goto 4, 3) := by decide +kernel
theorem dX12_ofArticle_93 : decode cX12_ofArticle 93 = .ok (.iconst 0, 1) := by decide +kernel
theorem dX12_ofArticle_94 : decode cX12_ofArticle 94 = .ok (.ireturn, 1) := by decide +kernel
theorem dX12_ofArticle_95 : decode cX12_ofArticle 95 = .ok (.iconst (-1), 1) := by decide +kernel
theorem dX12_ofArticle_96 : decode cX12_ofArticle 96 = .ok (.ireturn, 1) := by decide +kernel
theorem dX12_count_0 : decode cX12_count 0 = .ok (.iload_n 1, 1) := by decide +kernel
theorem dX12_count_1 : decode cX12_count 1 = .ok (.tableswitch 105 0 8 #[51, 56, 61, 66, 71, 79, 87, 92, 100], 51) := by decide +kernel
theorem dX12_count_52 : decode cX12_count 52 = .ok (.aload_n 0, 1) := by decide +kernel
theorem dX12_count_53 : decode cX12_count 53 = .ok (.getfield 133, 3) := by decide +kernel
theorem dX12_count_56 : decode cX12_count 56 = .ok (.ireturn, 1) := by decide +kernel
theorem dX12_count_57 : decode cX12_count 57 = .ok (.aload_n 0, 1) := by decide +kernel
theorem dX12_count_58 : decode cX12_count 58 = .ok (.getfield 203, 3) := by decide +kernel
theorem dX12_count_61 : decode cX12_count 61 = .ok (.ireturn, 1) := by decide +kernel
theorem dX12_count_62 : decode cX12_count 62 = .ok (.aload_n 0, 1) := by decide +kernel
theorem dX12_count_63 : decode cX12_count 63 = .ok (.getfield 292, 3) := by decide +kernel
theorem dX12_count_66 : decode cX12_count 66 = .ok (.ireturn, 1) := by decide +kernel
theorem dX12_count_67 : decode cX12_count 67 = .ok (.aload_n 0, 1) := by decide +kernel
theorem dX12_count_68 : decode cX12_count 68 = .ok (.getfield 370, 3) := by decide +kernel
theorem dX12_count_71 : decode cX12_count 71 = .ok (.ireturn, 1) := by decide +kernel
theorem dX12_count_72 : decode cX12_count 72 = .ok (.aload_n 0, 1) := by decide +kernel
theorem dX12_count_73 : decode cX12_count 73 = .ok (.getfield 19, 3) := by decide +kernel
theorem dX12_count_76 : decode cX12_count 76 = .ok (.getfield 590, 3) := by decide +kernel
theorem dX12_count_79 : decode cX12_count 79 = .ok (.ireturn, 1) := by decide +kernel
theorem dX12_count_80 : decode cX12_count 80 = .ok (.aload_n 0, 1) := by decide +kernel
theorem dX12_count_81 : decode cX12_count 81 = .ok (.getfield 66, 3) := by decide +kernel
theorem dX12_count_84 : decode cX12_count 84 = .ok (.getfield 593, 3) := by decide +kernel
theorem dX12_count_87 : decode cX12_count 87 = .ok (.ireturn, 1) := by decide +kernel
theorem dX12_count_88 : decode cX12_count 88 = .ok (.aload_n 0, 1) := by decide +kernel
theorem dX12_count_89 : decode cX12_count 89 = .ok (.getfield 158, 3) := by decide +kernel
theorem dX12_count_92 : decode cX12_count 92 = .ok (.ireturn, 1) := by decide +kernel
theorem dX12_count_93 : decode cX12_count 93 = .ok (.aload_n 0, 1) := by decide +kernel
theorem dX12_count_94 : decode cX12_count 94 = .ok (.getfield 10, 3) := by decide +kernel
theorem dX12_count_97 : decode cX12_count 97 = .ok (.getfield 103, 3) := by decide +kernel
theorem dX12_count_100 : decode cX12_count 100 = .ok (.ireturn, 1) := by decide +kernel
theorem dX12_count_101 : decode cX12_count 101 = .ok (.aload_n 0, 1) := by decide +kernel
theorem dX12_count_102 : decode cX12_count 102 = .ok (.invokevirtual 596, 3) := by decide +kernel
theorem dX12_count_105 : decode cX12_count 105 = .ok (.ireturn, 1) := by decide +kernel
theorem dX12_count_106 : decode cX12_count 106 = .ok (.aload_n 0, 1) := by decide +kernel
theorem dX12_count_107 : decode cX12_count 107 = .ok (.iload_n 1, 1) := by decide +kernel
theorem dX12_count_108 : decode cX12_count 108 = .ok (.invokevirtual 599, 3) := by decide +kernel
theorem dX12_count_111 : decode cX12_count 111 = .ok (.ireturn, 1) := by decide +kernel
theorem dX12_payOfAll_0 : decode cX12_payOfAll 0 = .ok (.iconst 0, 1) := by decide +kernel
theorem dX12_payOfAll_1 : decode cX12_payOfAll 1 = .ok (.istore_n 1, 1) := by decide +kernel
theorem dX12_payOfAll_2 : decode cX12_payOfAll 2 = .ok (.iconst 0, 1) := by decide +kernel
theorem dX12_payOfAll_3 : decode cX12_payOfAll 3 = .ok (.istore_n 2, 1) := by decide +kernel
theorem dX12_payOfAll_4 : decode cX12_payOfAll 4 = .ok (.iload_n 2, 1) := by decide +kernel
theorem dX12_payOfAll_5 : decode cX12_payOfAll 5 = .ok (.aload_n 0, 1) := by decide +kernel
theorem dX12_payOfAll_6 : decode cX12_payOfAll 6 = .ok (.getfield 292, 3) := by decide +kernel
theorem dX12_payOfAll_9 : decode cX12_payOfAll 9 = .ok (.if_icmp .ge 30, 3) := by decide +kernel
theorem dX12_payOfAll_12 : decode cX12_payOfAll 12 = .ok (.aload_n 0, 1) := by decide +kernel
theorem dX12_payOfAll_13 : decode cX12_payOfAll 13 = .ok (.iload_n 2, 1) := by decide +kernel
theorem dX12_payOfAll_14 : decode cX12_payOfAll 14 = .ok (.invokevirtual 296, 3) := by decide +kernel
theorem dX12_payOfAll_17 : decode cX12_payOfAll 17 = .ok (.astore_n 3, 1) := by decide +kernel
theorem dX12_payOfAll_18 : decode cX12_payOfAll 18 = .ok (.iload_n 1, 1) := by decide +kernel
theorem dX12_payOfAll_19 : decode cX12_payOfAll 19 = .ok (.aload_n 3, 1) := by decide +kernel
theorem dX12_payOfAll_20 : decode cX12_payOfAll 20 = .ok (.ifnonnull 7, 3) := by decide +kernel
theorem dX12_payOfAll_23 : decode cX12_payOfAll 23 = .ok (.iconst 0, 1) := by decide +kernel
theorem dX12_payOfAll_24 : decode cX12_payOfAll 24 = .ok (.goto 7, 3) := by decide +kernel
theorem dX12_payOfAll_27 : decode cX12_payOfAll 27 = .ok (.aload_n 3, 1) := by decide +kernel
theorem dX12_payOfAll_28 : decode cX12_payOfAll 28 = .ok (.getfield 388, 3) := by decide +kernel
theorem dX12_payOfAll_31 : decode cX12_payOfAll 31 = .ok (.iadd, 1) := by decide +kernel
theorem dX12_payOfAll_32 : decode cX12_payOfAll 32 = .ok (.istore_n 1, 1) := by decide +kernel
theorem dX12_payOfAll_33 : decode cX12_payOfAll 33 = .ok (.iinc 2 1, 3) := by decide +kernel
theorem dX12_payOfAll_36 : decode cX12_payOfAll 36 = .ok (.goto (-32), 3) := by decide +kernel
theorem dX12_payOfAll_39 : decode cX12_payOfAll 39 = .ok (.iload_n 1, 1) := by decide +kernel
theorem dX12_payOfAll_40 : decode cX12_payOfAll 40 = .ok (.ireturn, 1) := by decide +kernel
theorem dX12_countOfHand_0 : decode cX12_countOfHand 0 = .ok (.iload_n 1, 1) := by decide +kernel
theorem dX12_countOfHand_1 : decode cX12_countOfHand 1 = .ok (.bipush 10, 2) := by decide +kernel
theorem dX12_countOfHand_3 : decode cX12_countOfHand 3 = .ok (.if_icmp .lt 13, 3) := by decide +kernel
theorem dX12_countOfHand_6 : decode cX12_countOfHand 6 = .ok (.iload_n 1, 1) := by decide +kernel
theorem dX12_countOfHand_7 : decode cX12_countOfHand 7 = .ok (.bipush 22, 2) := by decide +kernel
theorem dX12_countOfHand_9 : decode cX12_countOfHand 9 = .ok (.if_icmp .ge 7, 3) := by decide +kernel
theorem dX12_countOfHand_12 : decode cX12_countOfHand 12 = .ok (.iconst 1, 1) := by decide +kernel
theorem dX12_countOfHand_13 : decode cX12_countOfHand 13 = .ok (.goto 4, 3) := by decide +kernel
theorem dX12_countOfHand_16 : decode cX12_countOfHand 16 = .ok (.iconst 0, 1) := by decide +kernel
theorem dX12_countOfHand_17 : decode cX12_countOfHand 17 = .ok (.istore_n 2, 1) := by decide +kernel
theorem dX12_countOfHand_18 : decode cX12_countOfHand 18 = .ok (.iload_n 1, 1) := by decide +kernel
theorem dX12_countOfHand_19 : decode cX12_countOfHand 19 = .ok (.bipush 30, 2) := by decide +kernel
theorem dX12_countOfHand_21 : decode cX12_countOfHand 21 = .ok (.if_icmp .lt 13, 3) := by decide +kernel
theorem dX12_countOfHand_24 : decode cX12_countOfHand 24 = .ok (.iload_n 1, 1) := by decide +kernel
theorem dX12_countOfHand_25 : decode cX12_countOfHand 25 = .ok (.bipush 42, 2) := by decide +kernel
theorem dX12_countOfHand_27 : decode cX12_countOfHand 27 = .ok (.if_icmp .ge 7, 3) := by decide +kernel
theorem dX12_countOfHand_30 : decode cX12_countOfHand 30 = .ok (.iconst 1, 1) := by decide +kernel
theorem dX12_countOfHand_31 : decode cX12_countOfHand 31 = .ok (.goto 4, 3) := by decide +kernel
theorem dX12_countOfHand_34 : decode cX12_countOfHand 34 = .ok (.iconst 0, 1) := by decide +kernel
theorem dX12_countOfHand_35 : decode cX12_countOfHand 35 = .ok (.istore_n 3, 1) := by decide +kernel
theorem dX12_countOfHand_36 : decode cX12_countOfHand 36 = .ok (.iload_n 2, 1) := by decide +kernel
theorem dX12_countOfHand_37 : decode cX12_countOfHand 37 = .ok (.ifCond .ne 9, 3) := by decide +kernel
theorem dX12_countOfHand_40 : decode cX12_countOfHand 40 = .ok (.iload_n 3, 1) := by decide +kernel
theorem dX12_countOfHand_41 : decode cX12_countOfHand 41 = .ok (.ifCond .ne 5, 3) := by decide +kernel
theorem dX12_countOfHand_44 : decode cX12_countOfHand 44 = .ok (.iconst (-1), 1) := by decide +kernel
theorem dX12_countOfHand_45 : decode cX12_countOfHand 45 = .ok (.ireturn, 1) := by decide +kernel
theorem dX12_countOfHand_46 : decode cX12_countOfHand 46 = .ok (.aload_n 0, 1) := by decide +kernel
theorem dX12_countOfHand_47 : decode cX12_countOfHand 47 = .ok (.iload_n 2, 1) := by decide +kernel
theorem dX12_countOfHand_48 : decode cX12_countOfHand 48 = .ok (.ifCond .eq 10, 3) := by decide +kernel
theorem dX12_countOfHand_51 : decode cX12_countOfHand 51 = .ok (.iload_n 1, 1) := by decide +kernel
theorem dX12_countOfHand_52 : decode cX12_countOfHand 52 = .ok (.bipush 10, 2) := by decide +kernel
theorem dX12_countOfHand_54 : decode cX12_countOfHand 54 = .ok (.isub, 1) := by decide +kernel
theorem dX12_countOfHand_55 : decode cX12_countOfHand 55 = .ok (.goto 7, 3) := by decide +kernel
theorem dX12_countOfHand_58 : decode cX12_countOfHand 58 = .ok (.iload_n 1, 1) := by decide +kernel
theorem dX12_countOfHand_59 : decode cX12_countOfHand 59 = .ok (.bipush 30, 2) := by decide +kernel
theorem dX12_countOfHand_61 : decode cX12_countOfHand 61 = .ok (.isub, 1) := by decide +kernel
theorem dX12_countOfHand_62 : decode cX12_countOfHand 62 = .ok (.invokevirtual 296, 3) := by decide +kernel
theorem dX12_countOfHand_65 : decode cX12_countOfHand 65 = .ok (.astore 4, 2) := by decide +kernel
theorem dX12_countOfHand_67 : decode cX12_countOfHand 67 = .ok (.aload 4, 2) := by decide +kernel
theorem dX12_countOfHand_69 : decode cX12_countOfHand 69 = .ok (.ifnonnull 5, 3) := by decide +kernel
theorem dX12_countOfHand_72 : decode cX12_countOfHand 72 = .ok (.iconst (-1), 1) := by decide +kernel
theorem dX12_countOfHand_73 : decode cX12_countOfHand 73 = .ok (.ireturn, 1) := by decide +kernel
theorem dX12_countOfHand_74 : decode cX12_countOfHand 74 = .ok (.iload_n 2, 1) := by decide +kernel
theorem dX12_countOfHand_75 : decode cX12_countOfHand 75 = .ok (.ifCond .eq 11, 3) := by decide +kernel
theorem dX12_countOfHand_78 : decode cX12_countOfHand 78 = .ok (.aload 4, 2) := by decide +kernel
theorem dX12_countOfHand_80 : decode cX12_countOfHand 80 = .ok (.getfield 388, 3) := by decide +kernel
theorem dX12_countOfHand_83 : decode cX12_countOfHand 83 = .ok (.goto 16, 3) := by decide +kernel
theorem dX12_countOfHand_86 : decode cX12_countOfHand 86 = .ok (.aload 4, 2) := by decide +kernel
theorem dX12_countOfHand_88 : decode cX12_countOfHand 88 = .ok (.getfield 300, 3) := by decide +kernel
theorem dX12_countOfHand_91 : decode cX12_countOfHand 91 = .ok (.ifCond .eq 7, 3) := by decide +kernel
theorem dX12_countOfHand_94 : decode cX12_countOfHand 94 = .ok (.iconst 1, 1) := by decide +kernel
theorem dX12_countOfHand_95 : decode cX12_countOfHand 95 = .ok (.goto 4, 3) := by decide +kernel
theorem dX12_countOfHand_98 : decode cX12_countOfHand 98 = .ok (.iconst 0, 1) := by decide +kernel
theorem dX12_countOfHand_99 : decode cX12_countOfHand 99 = .ok (.ireturn, 1) := by decide +kernel
theorem dJ6_numberOfTrailingZeros_0f7a4_0 : decode cJ6_numberOfTrailingZeros_0f7a4 0 = .ok (.iload_n 0, 1) := by decide +kernel
theorem dJ6_numberOfTrailingZeros_0f7a4_1 : decode cJ6_numberOfTrailingZeros_0f7a4 1 = .ok (.iconst (-1), 1) := by decide +kernel
theorem dJ6_numberOfTrailingZeros_0f7a4_2 : decode cJ6_numberOfTrailingZeros_0f7a4 2 = .ok (.ixor, 1) := by decide +kernel
theorem dJ6_numberOfTrailingZeros_0f7a4_3 : decode cJ6_numberOfTrailingZeros_0f7a4 3 = .ok (.iload_n 0, 1) := by decide +kernel
theorem dJ6_numberOfTrailingZeros_0f7a4_4 : decode cJ6_numberOfTrailingZeros_0f7a4 4 = .ok (.iconst 1, 1) := by decide +kernel
theorem dJ6_numberOfTrailingZeros_0f7a4_5 : decode cJ6_numberOfTrailingZeros_0f7a4 5 = .ok (.isub, 1) := by decide +kernel
theorem dJ6_numberOfTrailingZeros_0f7a4_6 : decode cJ6_numberOfTrailingZeros_0f7a4 6 = .ok (.iand, 1) := by decide +kernel
theorem dJ6_numberOfTrailingZeros_0f7a4_7 : decode cJ6_numberOfTrailingZeros_0f7a4 7 = .ok (.istore_n 0, 1) := by decide +kernel
theorem dJ6_numberOfTrailingZeros_0f7a4_8 : decode cJ6_numberOfTrailingZeros_0f7a4 8 = .ok (.iload_n 0, 1) := by decide +kernel
theorem dJ6_numberOfTrailingZeros_0f7a4_9 : decode cJ6_numberOfTrailingZeros_0f7a4 9 = .ok (.ifCond .gt 8, 3) := by decide +kernel
theorem dJ6_numberOfTrailingZeros_0f7a4_12 : decode cJ6_numberOfTrailingZeros_0f7a4 12 = .ok (.iload_n 0, 1) := by decide +kernel
theorem dJ6_numberOfTrailingZeros_0f7a4_13 : decode cJ6_numberOfTrailingZeros_0f7a4 13 = .ok (.bipush 32, 2) := by decide +kernel
theorem dJ6_numberOfTrailingZeros_0f7a4_15 : decode cJ6_numberOfTrailingZeros_0f7a4 15 = .ok (.iand, 1) := by decide +kernel
theorem dJ6_numberOfTrailingZeros_0f7a4_16 : decode cJ6_numberOfTrailingZeros_0f7a4 16 = .ok (.ireturn, 1) := by decide +kernel
theorem dJ6_numberOfTrailingZeros_0f7a4_17 : decode cJ6_numberOfTrailingZeros_0f7a4 17 = .ok (.iconst 1, 1) := by decide +kernel
theorem dJ6_numberOfTrailingZeros_0f7a4_18 : decode cJ6_numberOfTrailingZeros_0f7a4 18 = .ok (.istore_n 1, 1) := by decide +kernel
theorem dJ6_numberOfTrailingZeros_0f7a4_19 : decode cJ6_numberOfTrailingZeros_0f7a4 19 = .ok (.iload_n 0, 1) := by decide +kernel
theorem dJ6_numberOfTrailingZeros_0f7a4_20 : decode cJ6_numberOfTrailingZeros_0f7a4 20 = .ok (.ldc_w 264, 3) := by decide +kernel
theorem dJ6_numberOfTrailingZeros_0f7a4_23 : decode cJ6_numberOfTrailingZeros_0f7a4 23 = .ok (.if_icmp .le 11, 3) := by decide +kernel
theorem dJ6_numberOfTrailingZeros_0f7a4_26 : decode cJ6_numberOfTrailingZeros_0f7a4 26 = .ok (.iinc 1 16, 3) := by decide +kernel
theorem dJ6_numberOfTrailingZeros_0f7a4_29 : decode cJ6_numberOfTrailingZeros_0f7a4 29 = .ok (.iload_n 0, 1) := by decide +kernel
theorem dJ6_numberOfTrailingZeros_0f7a4_30 : decode cJ6_numberOfTrailingZeros_0f7a4 30 = .ok (.bipush 16, 2) := by decide +kernel
theorem dJ6_numberOfTrailingZeros_0f7a4_32 : decode cJ6_numberOfTrailingZeros_0f7a4 32 = .ok (.iushr, 1) := by decide +kernel
theorem dJ6_numberOfTrailingZeros_0f7a4_33 : decode cJ6_numberOfTrailingZeros_0f7a4 33 = .ok (.istore_n 0, 1) := by decide +kernel
theorem dJ6_numberOfTrailingZeros_0f7a4_34 : decode cJ6_numberOfTrailingZeros_0f7a4 34 = .ok (.iload_n 0, 1) := by decide +kernel
theorem dJ6_numberOfTrailingZeros_0f7a4_35 : decode cJ6_numberOfTrailingZeros_0f7a4 35 = .ok (.sipush 256, 3) := by decide +kernel
theorem dJ6_numberOfTrailingZeros_0f7a4_38 : decode cJ6_numberOfTrailingZeros_0f7a4 38 = .ok (.if_icmp .le 11, 3) := by decide +kernel
theorem dJ6_numberOfTrailingZeros_0f7a4_41 : decode cJ6_numberOfTrailingZeros_0f7a4 41 = .ok (.iinc 1 8, 3) := by decide +kernel
theorem dJ6_numberOfTrailingZeros_0f7a4_44 : decode cJ6_numberOfTrailingZeros_0f7a4 44 = .ok (.iload_n 0, 1) := by decide +kernel
theorem dJ6_numberOfTrailingZeros_0f7a4_45 : decode cJ6_numberOfTrailingZeros_0f7a4 45 = .ok (.bipush 8, 2) := by decide +kernel
theorem dJ6_numberOfTrailingZeros_0f7a4_47 : decode cJ6_numberOfTrailingZeros_0f7a4 47 = .ok (.iushr, 1) := by decide +kernel
theorem dJ6_numberOfTrailingZeros_0f7a4_48 : decode cJ6_numberOfTrailingZeros_0f7a4 48 = .ok (.istore_n 0, 1) := by decide +kernel
theorem dJ6_numberOfTrailingZeros_0f7a4_49 : decode cJ6_numberOfTrailingZeros_0f7a4 49 = .ok (.iload_n 0, 1) := by decide +kernel
theorem dJ6_numberOfTrailingZeros_0f7a4_50 : decode cJ6_numberOfTrailingZeros_0f7a4 50 = .ok (.bipush 16, 2) := by decide +kernel
theorem dJ6_numberOfTrailingZeros_0f7a4_52 : decode cJ6_numberOfTrailingZeros_0f7a4 52 = .ok (.if_icmp .le 10, 3) := by decide +kernel
theorem dJ6_numberOfTrailingZeros_0f7a4_55 : decode cJ6_numberOfTrailingZeros_0f7a4 55 = .ok (.iinc 1 4, 3) := by decide +kernel
theorem dJ6_numberOfTrailingZeros_0f7a4_58 : decode cJ6_numberOfTrailingZeros_0f7a4 58 = .ok (.iload_n 0, 1) := by decide +kernel
theorem dJ6_numberOfTrailingZeros_0f7a4_59 : decode cJ6_numberOfTrailingZeros_0f7a4 59 = .ok (.iconst 4, 1) := by decide +kernel
theorem dJ6_numberOfTrailingZeros_0f7a4_60 : decode cJ6_numberOfTrailingZeros_0f7a4 60 = .ok (.iushr, 1) := by decide +kernel
theorem dJ6_numberOfTrailingZeros_0f7a4_61 : decode cJ6_numberOfTrailingZeros_0f7a4 61 = .ok (.istore_n 0, 1) := by decide +kernel
theorem dJ6_numberOfTrailingZeros_0f7a4_62 : decode cJ6_numberOfTrailingZeros_0f7a4 62 = .ok (.iload_n 0, 1) := by decide +kernel
theorem dJ6_numberOfTrailingZeros_0f7a4_63 : decode cJ6_numberOfTrailingZeros_0f7a4 63 = .ok (.iconst 4, 1) := by decide +kernel
theorem dJ6_numberOfTrailingZeros_0f7a4_64 : decode cJ6_numberOfTrailingZeros_0f7a4 64 = .ok (.if_icmp .le 10, 3) := by decide +kernel
theorem dJ6_numberOfTrailingZeros_0f7a4_67 : decode cJ6_numberOfTrailingZeros_0f7a4 67 = .ok (.iinc 1 2, 3) := by decide +kernel
theorem dJ6_numberOfTrailingZeros_0f7a4_70 : decode cJ6_numberOfTrailingZeros_0f7a4 70 = .ok (.iload_n 0, 1) := by decide +kernel
theorem dJ6_numberOfTrailingZeros_0f7a4_71 : decode cJ6_numberOfTrailingZeros_0f7a4 71 = .ok (.iconst 2, 1) := by decide +kernel
theorem dJ6_numberOfTrailingZeros_0f7a4_72 : decode cJ6_numberOfTrailingZeros_0f7a4 72 = .ok (.iushr, 1) := by decide +kernel
theorem dJ6_numberOfTrailingZeros_0f7a4_73 : decode cJ6_numberOfTrailingZeros_0f7a4 73 = .ok (.istore_n 0, 1) := by decide +kernel
theorem dJ6_numberOfTrailingZeros_0f7a4_74 : decode cJ6_numberOfTrailingZeros_0f7a4 74 = .ok (.iload_n 1, 1) := by decide +kernel
theorem dJ6_numberOfTrailingZeros_0f7a4_75 : decode cJ6_numberOfTrailingZeros_0f7a4 75 = .ok (.iload_n 0, 1) := by decide +kernel
theorem dJ6_numberOfTrailingZeros_0f7a4_76 : decode cJ6_numberOfTrailingZeros_0f7a4 76 = .ok (.iconst 1, 1) := by decide +kernel
theorem dJ6_numberOfTrailingZeros_0f7a4_77 : decode cJ6_numberOfTrailingZeros_0f7a4 77 = .ok (.iushr, 1) := by decide +kernel
theorem dJ6_numberOfTrailingZeros_0f7a4_78 : decode cJ6_numberOfTrailingZeros_0f7a4 78 = .ok (.iadd, 1) := by decide +kernel
theorem dJ6_numberOfTrailingZeros_0f7a4_79 : decode cJ6_numberOfTrailingZeros_0f7a4 79 = .ok (.ireturn, 1) := by decide +kernel
theorem dJ6_bitCount_0f7a4_0 : decode cJ6_bitCount_0f7a4 0 = .ok (.iload_n 0, 1) := by decide +kernel
theorem dJ6_bitCount_0f7a4_1 : decode cJ6_bitCount_0f7a4 1 = .ok (.iload_n 0, 1) := by decide +kernel
theorem dJ6_bitCount_0f7a4_2 : decode cJ6_bitCount_0f7a4 2 = .ok (.iconst 1, 1) := by decide +kernel
theorem dJ6_bitCount_0f7a4_3 : decode cJ6_bitCount_0f7a4 3 = .ok (.iushr, 1) := by decide +kernel
theorem dJ6_bitCount_0f7a4_4 : decode cJ6_bitCount_0f7a4 4 = .ok (.ldc_w 265, 3) := by decide +kernel
theorem dJ6_bitCount_0f7a4_7 : decode cJ6_bitCount_0f7a4 7 = .ok (.iand, 1) := by decide +kernel
theorem dJ6_bitCount_0f7a4_8 : decode cJ6_bitCount_0f7a4 8 = .ok (.isub, 1) := by decide +kernel
theorem dJ6_bitCount_0f7a4_9 : decode cJ6_bitCount_0f7a4 9 = .ok (.istore_n 0, 1) := by decide +kernel
theorem dJ6_bitCount_0f7a4_10 : decode cJ6_bitCount_0f7a4 10 = .ok (.iload_n 0, 1) := by decide +kernel
theorem dJ6_bitCount_0f7a4_11 : decode cJ6_bitCount_0f7a4 11 = .ok (.ldc_w 266, 3) := by decide +kernel
theorem dJ6_bitCount_0f7a4_14 : decode cJ6_bitCount_0f7a4 14 = .ok (.iand, 1) := by decide +kernel
theorem dJ6_bitCount_0f7a4_15 : decode cJ6_bitCount_0f7a4 15 = .ok (.iload_n 0, 1) := by decide +kernel
theorem dJ6_bitCount_0f7a4_16 : decode cJ6_bitCount_0f7a4 16 = .ok (.iconst 2, 1) := by decide +kernel
theorem dJ6_bitCount_0f7a4_17 : decode cJ6_bitCount_0f7a4 17 = .ok (.iushr, 1) := by decide +kernel
theorem dJ6_bitCount_0f7a4_18 : decode cJ6_bitCount_0f7a4 18 = .ok (.ldc_w 266, 3) := by decide +kernel
theorem dJ6_bitCount_0f7a4_21 : decode cJ6_bitCount_0f7a4 21 = .ok (.iand, 1) := by decide +kernel
theorem dJ6_bitCount_0f7a4_22 : decode cJ6_bitCount_0f7a4 22 = .ok (.iadd, 1) := by decide +kernel
theorem dJ6_bitCount_0f7a4_23 : decode cJ6_bitCount_0f7a4 23 = .ok (.istore_n 0, 1) := by decide +kernel
theorem dJ6_bitCount_0f7a4_24 : decode cJ6_bitCount_0f7a4 24 = .ok (.iload_n 0, 1) := by decide +kernel
theorem dJ6_bitCount_0f7a4_25 : decode cJ6_bitCount_0f7a4 25 = .ok (.iload_n 0, 1) := by decide +kernel
theorem dJ6_bitCount_0f7a4_26 : decode cJ6_bitCount_0f7a4 26 = .ok (.iconst 4, 1) := by decide +kernel
theorem dJ6_bitCount_0f7a4_27 : decode cJ6_bitCount_0f7a4 27 = .ok (.iushr, 1) := by decide +kernel
theorem dJ6_bitCount_0f7a4_28 : decode cJ6_bitCount_0f7a4 28 = .ok (.iadd, 1) := by decide +kernel
theorem dJ6_bitCount_0f7a4_29 : decode cJ6_bitCount_0f7a4 29 = .ok (.ldc_w 267, 3) := by decide +kernel
theorem dJ6_bitCount_0f7a4_32 : decode cJ6_bitCount_0f7a4 32 = .ok (.iand, 1) := by decide +kernel
theorem dJ6_bitCount_0f7a4_33 : decode cJ6_bitCount_0f7a4 33 = .ok (.istore_n 0, 1) := by decide +kernel
theorem dJ6_bitCount_0f7a4_34 : decode cJ6_bitCount_0f7a4 34 = .ok (.iload_n 0, 1) := by decide +kernel
theorem dJ6_bitCount_0f7a4_35 : decode cJ6_bitCount_0f7a4 35 = .ok (.iload_n 0, 1) := by decide +kernel
theorem dJ6_bitCount_0f7a4_36 : decode cJ6_bitCount_0f7a4 36 = .ok (.bipush 8, 2) := by decide +kernel
theorem dJ6_bitCount_0f7a4_38 : decode cJ6_bitCount_0f7a4 38 = .ok (.iushr, 1) := by decide +kernel
theorem dJ6_bitCount_0f7a4_39 : decode cJ6_bitCount_0f7a4 39 = .ok (.iadd, 1) := by decide +kernel
theorem dJ6_bitCount_0f7a4_40 : decode cJ6_bitCount_0f7a4 40 = .ok (.istore_n 0, 1) := by decide +kernel
theorem dJ6_bitCount_0f7a4_41 : decode cJ6_bitCount_0f7a4 41 = .ok (.iload_n 0, 1) := by decide +kernel
theorem dJ6_bitCount_0f7a4_42 : decode cJ6_bitCount_0f7a4 42 = .ok (.iload_n 0, 1) := by decide +kernel
theorem dJ6_bitCount_0f7a4_43 : decode cJ6_bitCount_0f7a4 43 = .ok (.bipush 16, 2) := by decide +kernel
theorem dJ6_bitCount_0f7a4_45 : decode cJ6_bitCount_0f7a4 45 = .ok (.iushr, 1) := by decide +kernel
theorem dJ6_bitCount_0f7a4_46 : decode cJ6_bitCount_0f7a4 46 = .ok (.iadd, 1) := by decide +kernel
theorem dJ6_bitCount_0f7a4_47 : decode cJ6_bitCount_0f7a4 47 = .ok (.istore_n 0, 1) := by decide +kernel
theorem dJ6_bitCount_0f7a4_48 : decode cJ6_bitCount_0f7a4 48 = .ok (.iload_n 0, 1) := by decide +kernel
theorem dJ6_bitCount_0f7a4_49 : decode cJ6_bitCount_0f7a4 49 = .ok (.bipush 63, 2) := by decide +kernel
theorem dJ6_bitCount_0f7a4_51 : decode cJ6_bitCount_0f7a4 51 = .ok (.iand, 1) := by decide +kernel
theorem dJ6_bitCount_0f7a4_52 : decode cJ6_bitCount_0f7a4 52 = .ok (.ireturn, 1) := by decide +kernel
theorem dJ13_bitCount_95d88_0 : decode cJ13_bitCount_95d88 0 = .ok (.lload_n 0, 1) := by decide +kernel
theorem dJ13_bitCount_95d88_1 : decode cJ13_bitCount_95d88 1 = .ok (.lload_n 0, 1) := by decide +kernel
theorem dJ13_bitCount_95d88_2 : decode cJ13_bitCount_95d88 2 = .ok (.iconst 1, 1) := by decide +kernel
theorem dJ13_bitCount_95d88_3 : decode cJ13_bitCount_95d88 3 = .ok (.lushr, 1) := by decide +kernel
theorem dJ13_bitCount_95d88_4 : decode cJ13_bitCount_95d88 4 = .ok (.ldc2_w 314, 3) := by decide +kernel
theorem dJ13_bitCount_95d88_7 : decode cJ13_bitCount_95d88 7 = .ok (.land, 1) := by decide +kernel
theorem dJ13_bitCount_95d88_8 : decode cJ13_bitCount_95d88 8 = .ok (.lsub, 1) := by decide +kernel
theorem dJ13_bitCount_95d88_9 : decode cJ13_bitCount_95d88 9 = .ok (.lstore_n 0, 1) := by decide +kernel
theorem dJ13_bitCount_95d88_10 : decode cJ13_bitCount_95d88 10 = .ok (.lload_n 0, 1) := by decide +kernel
theorem dJ13_bitCount_95d88_11 : decode cJ13_bitCount_95d88 11 = .ok (.ldc2_w 316, 3) := by decide +kernel
theorem dJ13_bitCount_95d88_14 : decode cJ13_bitCount_95d88 14 = .ok (.land, 1) := by decide +kernel
theorem dJ13_bitCount_95d88_15 : decode cJ13_bitCount_95d88 15 = .ok (.lload_n 0, 1) := by decide +kernel
theorem dJ13_bitCount_95d88_16 : decode cJ13_bitCount_95d88 16 = .ok (.iconst 2, 1) := by decide +kernel
theorem dJ13_bitCount_95d88_17 : decode cJ13_bitCount_95d88 17 = .ok (.lushr, 1) := by decide +kernel
theorem dJ13_bitCount_95d88_18 : decode cJ13_bitCount_95d88 18 = .ok (.ldc2_w 316, 3) := by decide +kernel
theorem dJ13_bitCount_95d88_21 : decode cJ13_bitCount_95d88 21 = .ok (.land, 1) := by decide +kernel
theorem dJ13_bitCount_95d88_22 : decode cJ13_bitCount_95d88 22 = .ok (.ladd, 1) := by decide +kernel
theorem dJ13_bitCount_95d88_23 : decode cJ13_bitCount_95d88 23 = .ok (.lstore_n 0, 1) := by decide +kernel
theorem dJ13_bitCount_95d88_24 : decode cJ13_bitCount_95d88 24 = .ok (.lload_n 0, 1) := by decide +kernel
theorem dJ13_bitCount_95d88_25 : decode cJ13_bitCount_95d88 25 = .ok (.lload_n 0, 1) := by decide +kernel
theorem dJ13_bitCount_95d88_26 : decode cJ13_bitCount_95d88 26 = .ok (.iconst 4, 1) := by decide +kernel
theorem dJ13_bitCount_95d88_27 : decode cJ13_bitCount_95d88 27 = .ok (.lushr, 1) := by decide +kernel
theorem dJ13_bitCount_95d88_28 : decode cJ13_bitCount_95d88 28 = .ok (.ladd, 1) := by decide +kernel
theorem dJ13_bitCount_95d88_29 : decode cJ13_bitCount_95d88 29 = .ok (.ldc2_w 318, 3) := by decide +kernel
theorem dJ13_bitCount_95d88_32 : decode cJ13_bitCount_95d88 32 = .ok (.land, 1) := by decide +kernel
theorem dJ13_bitCount_95d88_33 : decode cJ13_bitCount_95d88 33 = .ok (.lstore_n 0, 1) := by decide +kernel
theorem dJ13_bitCount_95d88_34 : decode cJ13_bitCount_95d88 34 = .ok (.lload_n 0, 1) := by decide +kernel
theorem dJ13_bitCount_95d88_35 : decode cJ13_bitCount_95d88 35 = .ok (.lload_n 0, 1) := by decide +kernel
theorem dJ13_bitCount_95d88_36 : decode cJ13_bitCount_95d88 36 = .ok (.bipush 8, 2) := by decide +kernel
theorem dJ13_bitCount_95d88_38 : decode cJ13_bitCount_95d88 38 = .ok (.lushr, 1) := by decide +kernel
theorem dJ13_bitCount_95d88_39 : decode cJ13_bitCount_95d88 39 = .ok (.ladd, 1) := by decide +kernel
theorem dJ13_bitCount_95d88_40 : decode cJ13_bitCount_95d88 40 = .ok (.lstore_n 0, 1) := by decide +kernel
theorem dJ13_bitCount_95d88_41 : decode cJ13_bitCount_95d88 41 = .ok (.lload_n 0, 1) := by decide +kernel
theorem dJ13_bitCount_95d88_42 : decode cJ13_bitCount_95d88 42 = .ok (.lload_n 0, 1) := by decide +kernel
theorem dJ13_bitCount_95d88_43 : decode cJ13_bitCount_95d88 43 = .ok (.bipush 16, 2) := by decide +kernel
theorem dJ13_bitCount_95d88_45 : decode cJ13_bitCount_95d88 45 = .ok (.lushr, 1) := by decide +kernel
theorem dJ13_bitCount_95d88_46 : decode cJ13_bitCount_95d88 46 = .ok (.ladd, 1) := by decide +kernel
theorem dJ13_bitCount_95d88_47 : decode cJ13_bitCount_95d88 47 = .ok (.lstore_n 0, 1) := by decide +kernel
theorem dJ13_bitCount_95d88_48 : decode cJ13_bitCount_95d88 48 = .ok (.lload_n 0, 1) := by decide +kernel
theorem dJ13_bitCount_95d88_49 : decode cJ13_bitCount_95d88 49 = .ok (.lload_n 0, 1) := by decide +kernel
theorem dJ13_bitCount_95d88_50 : decode cJ13_bitCount_95d88 50 = .ok (.bipush 32, 2) := by decide +kernel
theorem dJ13_bitCount_95d88_52 : decode cJ13_bitCount_95d88 52 = .ok (.lushr, 1) := by decide +kernel
theorem dJ13_bitCount_95d88_53 : decode cJ13_bitCount_95d88 53 = .ok (.ladd, 1) := by decide +kernel
theorem dJ13_bitCount_95d88_54 : decode cJ13_bitCount_95d88 54 = .ok (.lstore_n 0, 1) := by decide +kernel
theorem dJ13_bitCount_95d88_55 : decode cJ13_bitCount_95d88 55 = .ok (.lload_n 0, 1) := by decide +kernel
theorem dJ13_bitCount_95d88_56 : decode cJ13_bitCount_95d88 56 = .ok (.l2i, 1) := by decide +kernel
theorem dJ13_bitCount_95d88_57 : decode cJ13_bitCount_95d88 57 = .ok (.bipush 127, 2) := by decide +kernel
theorem dJ13_bitCount_95d88_59 : decode cJ13_bitCount_95d88 59 = .ok (.iand, 1) := by decide +kernel
theorem dJ13_bitCount_95d88_60 : decode cJ13_bitCount_95d88 60 = .ok (.ireturn, 1) := by decide +kernel
theorem dJ0_length_8abf5_0 : decode cJ0_length_8abf5 0 = .ok (.aload_n 0, 1) := by decide +kernel
theorem dJ0_length_8abf5_1 : decode cJ0_length_8abf5 1 = .ok (.getfield 9, 3) := by decide +kernel
theorem dJ0_length_8abf5_4 : decode cJ0_length_8abf5 4 = .ok (.arraylength, 1) := by decide +kernel
theorem dJ0_length_8abf5_5 : decode cJ0_length_8abf5 5 = .ok (.aload_n 0, 1) := by decide +kernel
theorem dJ0_length_8abf5_6 : decode cJ0_length_8abf5 6 = .ok (.invokevirtual 335, 3) := by decide +kernel
theorem dJ0_length_8abf5_9 : decode cJ0_length_8abf5 9 = .ok (.ishr, 1) := by decide +kernel
theorem dJ0_length_8abf5_10 : decode cJ0_length_8abf5 10 = .ok (.ireturn, 1) := by decide +kernel
theorem dJ0_charAt_5068e_0 : decode cJ0_charAt_5068e 0 = .ok (.aload_n 0, 1) := by decide +kernel
theorem dJ0_charAt_5068e_1 : decode cJ0_charAt_5068e 1 = .ok (.invokevirtual 492, 3) := by decide +kernel
theorem dJ0_charAt_5068e_4 : decode cJ0_charAt_5068e 4 = .ok (.ifCond .eq 12, 3) := by decide +kernel
theorem dJ0_charAt_5068e_7 : decode cJ0_charAt_5068e 7 = .ok (.aload_n 0, 1) := by decide +kernel
theorem dJ0_charAt_5068e_8 : decode cJ0_charAt_5068e 8 = .ok (.getfield 9, 3) := by decide +kernel
theorem dJ0_charAt_5068e_11 : decode cJ0_charAt_5068e 11 = .ok (.iload_n 1, 1) := by decide +kernel
theorem dJ0_charAt_5068e_12 : decode cJ0_charAt_5068e 12 = .ok (.invokestatic 495, 3) := by decide +kernel
theorem dJ0_charAt_5068e_15 : decode cJ0_charAt_5068e 15 = .ok (.ireturn, 1) := by decide +kernel
theorem dJ0_charAt_5068e_16 : decode cJ0_charAt_5068e 16 = .ok (.aload_n 0, 1) := by decide +kernel
theorem dJ0_charAt_5068e_17 : decode cJ0_charAt_5068e 17 = .ok (.getfield 9, 3) := by decide +kernel
theorem dJ0_charAt_5068e_20 : decode cJ0_charAt_5068e 20 = .ok (.iload_n 1, 1) := by decide +kernel
theorem dJ0_charAt_5068e_21 : decode cJ0_charAt_5068e 21 = .ok (.invokestatic 498, 3) := by decide +kernel
theorem dJ0_charAt_5068e_24 : decode cJ0_charAt_5068e 24 = .ok (.ireturn, 1) := by decide +kernel
theorem dJ0_indexOf_0f7a4_0 : decode cJ0_indexOf_0f7a4 0 = .ok (.aload_n 0, 1) := by decide +kernel
theorem dJ0_indexOf_0f7a4_1 : decode cJ0_indexOf_0f7a4 1 = .ok (.iload_n 1, 1) := by decide +kernel
theorem dJ0_indexOf_0f7a4_2 : decode cJ0_indexOf_0f7a4 2 = .ok (.iconst 0, 1) := by decide +kernel
theorem dJ0_indexOf_0f7a4_3 : decode cJ0_indexOf_0f7a4 3 = .ok (.invokevirtual 633, 3) := by decide +kernel
theorem dJ0_indexOf_0f7a4_6 : decode cJ0_indexOf_0f7a4 6 = .ok (.ireturn, 1) := by decide +kernel
theorem dJ0_indexOf_7cf53_0 : decode cJ0_indexOf_7cf53 0 = .ok (.aload_n 0, 1) := by decide +kernel
theorem dJ0_indexOf_7cf53_1 : decode cJ0_indexOf_7cf53 1 = .ok (.invokevirtual 492, 3) := by decide +kernel
theorem dJ0_indexOf_7cf53_4 : decode cJ0_indexOf_7cf53 4 = .ok (.ifCond .eq 19, 3) := by decide +kernel
theorem dJ0_indexOf_7cf53_7 : decode cJ0_indexOf_7cf53 7 = .ok (.aload_n 0, 1) := by decide +kernel
theorem dJ0_indexOf_7cf53_8 : decode cJ0_indexOf_7cf53 8 = .ok (.getfield 9, 3) := by decide +kernel
theorem dJ0_indexOf_7cf53_11 : decode cJ0_indexOf_7cf53 11 = .ok (.iload_n 1, 1) := by decide +kernel
theorem dJ0_indexOf_7cf53_12 : decode cJ0_indexOf_7cf53 12 = .ok (.iload_n 2, 1) := by decide +kernel
theorem dJ0_indexOf_7cf53_13 : decode cJ0_indexOf_7cf53 13 = .ok (.aload_n 0, 1) := by decide +kernel
theorem dJ0_indexOf_7cf53_14 : decode cJ0_indexOf_7cf53 14 = .ok (.invokevirtual 505, 3) := by decide +kernel
theorem dJ0_indexOf_7cf53_17 : decode cJ0_indexOf_7cf53 17 = .ok (.invokestatic 637, 3) := by decide +kernel
theorem dJ0_indexOf_7cf53_20 : decode cJ0_indexOf_7cf53 20 = .ok (.goto 16, 3) := by decide +kernel
theorem dJ0_indexOf_7cf53_23 : decode cJ0_indexOf_7cf53 23 = .ok (.aload_n 0, 1) := by decide +kernel
theorem dJ0_indexOf_7cf53_24 : decode cJ0_indexOf_7cf53 24 = .ok (.getfield 9, 3) := by decide +kernel
theorem dJ0_indexOf_7cf53_27 : decode cJ0_indexOf_7cf53 27 = .ok (.iload_n 1, 1) := by decide +kernel
theorem dJ0_indexOf_7cf53_28 : decode cJ0_indexOf_7cf53 28 = .ok (.iload_n 2, 1) := by decide +kernel
theorem dJ0_indexOf_7cf53_29 : decode cJ0_indexOf_7cf53 29 = .ok (.aload_n 0, 1) := by decide +kernel
theorem dJ0_indexOf_7cf53_30 : decode cJ0_indexOf_7cf53 30 = .ok (.invokevirtual 505, 3) := by decide +kernel
theorem dJ0_indexOf_7cf53_33 : decode cJ0_indexOf_7cf53 33 = .ok (.invokestatic 640, 3) := by decide +kernel
theorem dJ0_indexOf_7cf53_36 : decode cJ0_indexOf_7cf53 36 = .ok (.ireturn, 1) := by decide +kernel
theorem dJ0_coder_7d493_0 : decode cJ0_coder_7d493 0 = .ok (.getstatic 38, 3) := by decide +kernel
theorem dJ0_coder_7d493_3 : decode cJ0_coder_7d493 3 = .ok (.ifCond .eq 10, 3) := by decide +kernel
theorem dJ0_coder_7d493_6 : decode cJ0_coder_7d493 6 = .ok (.aload_n 0, 1) := by decide +kernel
theorem dJ0_coder_7d493_7 : decode cJ0_coder_7d493 7 = .ok (.getfield 15, 3) := by decide +kernel
theorem dJ0_coder_7d493_10 : decode cJ0_coder_7d493 10 = .ok (.goto 4, 3) := by decide +kernel
theorem dJ0_coder_7d493_13 : decode cJ0_coder_7d493 13 = .ok (.iconst 1, 1) := by decide +kernel
theorem dJ0_coder_7d493_14 : decode cJ0_coder_7d493 14 = .ok (.ireturn, 1) := by decide +kernel
theorem dJ0_isLatin1_aae02_0 : decode cJ0_isLatin1_aae02 0 = .ok (.getstatic 38, 3) := by decide +kernel
theorem dJ0_isLatin1_aae02_3 : decode cJ0_isLatin1_aae02 3 = .ok (.ifCond .eq 14, 3) := by decide +kernel
theorem dJ0_isLatin1_aae02_6 : decode cJ0_isLatin1_aae02 6 = .ok (.aload_n 0, 1) := by decide +kernel
theorem dJ0_isLatin1_aae02_7 : decode cJ0_isLatin1_aae02 7 = .ok (.getfield 15, 3) := by decide +kernel
theorem dJ0_isLatin1_aae02_10 : decode cJ0_isLatin1_aae02 10 = .ok (.ifCond .ne 7, 3) := by decide +kernel
theorem dJ0_isLatin1_aae02_13 : decode cJ0_isLatin1_aae02 13 = .ok (.iconst 1, 1) := by decide +kernel
theorem dJ0_isLatin1_aae02_14 : decode cJ0_isLatin1_aae02 14 = .ok (.goto 4, 3) := by decide +kernel
theorem dJ0_isLatin1_aae02_17 : decode cJ0_isLatin1_aae02 17 = .ok (.iconst 0, 1) := by decide +kernel
theorem dJ0_isLatin1_aae02_18 : decode cJ0_isLatin1_aae02 18 = .ok (.ireturn, 1) := by decide +kernel
theorem dJ0_checkIndex_df160_0 : decode cJ0_checkIndex_df160 0 = .ok (.iload_n 0, 1) := by decide +kernel
theorem dJ0_checkIndex_df160_1 : decode cJ0_checkIndex_df160 1 = .ok (.iload_n 1, 1) := by decide +kernel
theorem dJ0_checkIndex_df160_2 : decode cJ0_checkIndex_df160 2 = .ok (.getstatic 1053, 3) := by decide +kernel
theorem dJ0_checkIndex_df160_5 : decode cJ0_checkIndex_df160 5 = .ok (.invokestatic 1059, 3) := by decide +kernel
theorem dJ0_checkIndex_df160_8 : decode cJ0_checkIndex_df160 8 = .ok (.pop, 1) := by decide +kernel
theorem dJ0_checkIndex_df160_9 : decode cJ0_checkIndex_df160 9 = .ok (.return_, 1) := by decide +kernel
theorem dJ1_charAt_3b067_0 : decode cJ1_charAt_3b067 0 = .ok (.iload_n 1, 1) := by decide +kernel
theorem dJ1_charAt_3b067_1 : decode cJ1_charAt_3b067 1 = .ok (.aload_n 0, 1) := by decide +kernel
theorem dJ1_charAt_3b067_2 : decode cJ1_charAt_3b067 2 = .ok (.arraylength, 1) := by decide +kernel
theorem dJ1_charAt_3b067_3 : decode cJ1_charAt_3b067 3 = .ok (.invokestatic 9, 3) := by decide +kernel
theorem dJ1_charAt_3b067_6 : decode cJ1_charAt_3b067 6 = .ok (.aload_n 0, 1) := by decide +kernel
theorem dJ1_charAt_3b067_7 : decode cJ1_charAt_3b067 7 = .ok (.iload_n 1, 1) := by decide +kernel
theorem dJ1_charAt_3b067_8 : decode cJ1_charAt_3b067 8 = .ok (.baload, 1) := by decide +kernel
theorem dJ1_charAt_3b067_9 : decode cJ1_charAt_3b067 9 = .ok (.sipush 255, 3) := by decide +kernel
theorem dJ1_charAt_3b067_12 : decode cJ1_charAt_3b067 12 = .ok (.iand, 1) := by decide +kernel
theorem dJ1_charAt_3b067_13 : decode cJ1_charAt_3b067 13 = .ok (.i2c, 1) := by decide +kernel
theorem dJ1_charAt_3b067_14 : decode cJ1_charAt_3b067 14 = .ok (.ireturn, 1) := by decide +kernel
theorem dJ1_canEncode_9a6ad_0 : decode cJ1_canEncode_9a6ad 0 = .ok (.iload_n 0, 1) := by decide +kernel
theorem dJ1_canEncode_9a6ad_1 : decode cJ1_canEncode_9a6ad 1 = .ok (.ifCond .lt 14, 3) := by decide +kernel
theorem dJ1_canEncode_9a6ad_4 : decode cJ1_canEncode_9a6ad 4 = .ok (.iload_n 0, 1) := by decide +kernel
theorem dJ1_canEncode_9a6ad_5 : decode cJ1_canEncode_9a6ad 5 = .ok (.sipush 255, 3) := by decide +kernel
theorem dJ1_canEncode_9a6ad_8 : decode cJ1_canEncode_9a6ad 8 = .ok (.if_icmp .gt 7, 3) := by decide +kernel
theorem dJ1_canEncode_9a6ad_11 : decode cJ1_canEncode_9a6ad 11 = .ok (.iconst 1, 1) := by decide +kernel
theorem dJ1_canEncode_9a6ad_12 : decode cJ1_canEncode_9a6ad 12 = .ok (.goto 4, 3) := by decide +kernel
theorem dJ1_canEncode_9a6ad_15 : decode cJ1_canEncode_9a6ad 15 = .ok (.iconst 0, 1) := by decide +kernel
theorem dJ1_canEncode_9a6ad_16 : decode cJ1_canEncode_9a6ad 16 = .ok (.ireturn, 1) := by decide +kernel
theorem dJ1_indexOf_4cfef_0 : decode cJ1_indexOf_4cfef 0 = .ok (.iload_n 1, 1) := by decide +kernel
theorem dJ1_indexOf_4cfef_1 : decode cJ1_indexOf_4cfef 1 = .ok (.invokestatic 88, 3) := by decide +kernel
theorem dJ1_indexOf_4cfef_4 : decode cJ1_indexOf_4cfef 4 = .ok (.ifCond .ne 5, 3) := by decide +kernel
theorem dJ1_indexOf_4cfef_7 : decode cJ1_indexOf_4cfef 7 = .ok (.iconst (-1), 1) := by decide +kernel
theorem dJ1_indexOf_4cfef_8 : decode cJ1_indexOf_4cfef 8 = .ok (.ireturn, 1) := by decide +kernel
theorem dJ1_indexOf_4cfef_9 : decode cJ1_indexOf_4cfef 9 = .ok (.iload_n 2, 1) := by decide +kernel
theorem dJ1_indexOf_4cfef_10 : decode cJ1_indexOf_4cfef 10 = .ok (.iconst 0, 1) := by decide +kernel
theorem dJ1_indexOf_4cfef_11 : decode cJ1_indexOf_4cfef 11 = .ok (.invokestatic 92, 3) := by decide +kernel
theorem dJ1_indexOf_4cfef_14 : decode cJ1_indexOf_4cfef 14 = .ok (.istore_n 2, 1) := by decide +kernel
theorem dJ1_indexOf_4cfef_15 : decode cJ1_indexOf_4cfef 15 = .ok (.iload_n 3, 1) := by decide +kernel
theorem dJ1_indexOf_4cfef_16 : decode cJ1_indexOf_4cfef 16 = .ok (.aload_n 0, 1) := by decide +kernel
theorem dJ1_indexOf_4cfef_17 : decode cJ1_indexOf_4cfef 17 = .ok (.arraylength, 1) := by decide +kernel
theorem dJ1_indexOf_4cfef_18 : decode cJ1_indexOf_4cfef 18 = .ok (.invokestatic 38, 3) := by decide +kernel
theorem dJ1_indexOf_4cfef_21 : decode cJ1_indexOf_4cfef 21 = .ok (.istore_n 3, 1) := by decide +kernel
theorem dJ1_indexOf_4cfef_22 : decode cJ1_indexOf_4cfef 22 = .ok (.iload_n 2, 1) := by decide +kernel
theorem dJ1_indexOf_4cfef_23 : decode cJ1_indexOf_4cfef 23 = .ok (.iload_n 3, 1) := by decide +kernel
theorem dJ1_indexOf_4cfef_24 : decode cJ1_indexOf_4cfef 24 = .ok (.if_icmp .lt 5, 3) := by decide +kernel
theorem dJ1_indexOf_4cfef_27 : decode cJ1_indexOf_4cfef 27 = .ok (.iconst (-1), 1) := by decide +kernel
theorem dJ1_indexOf_4cfef_28 : decode cJ1_indexOf_4cfef 28 = .ok (.ireturn, 1) := by decide +kernel
theorem dJ1_indexOf_4cfef_29 : decode cJ1_indexOf_4cfef 29 = .ok (.aload_n 0, 1) := by decide +kernel
theorem dJ1_indexOf_4cfef_30 : decode cJ1_indexOf_4cfef 30 = .ok (.iload_n 1, 1) := by decide +kernel
theorem dJ1_indexOf_4cfef_31 : decode cJ1_indexOf_4cfef 31 = .ok (.iload_n 2, 1) := by decide +kernel
theorem dJ1_indexOf_4cfef_32 : decode cJ1_indexOf_4cfef 32 = .ok (.iload_n 3, 1) := by decide +kernel
theorem dJ1_indexOf_4cfef_33 : decode cJ1_indexOf_4cfef 33 = .ok (.invokestatic 95, 3) := by decide +kernel
theorem dJ1_indexOf_4cfef_36 : decode cJ1_indexOf_4cfef 36 = .ok (.ireturn, 1) := by decide +kernel
theorem dJ1_indexOfChar_4cfef_0 : decode cJ1_indexOfChar_4cfef 0 = .ok (.iload_n 1, 1) := by decide +kernel
theorem dJ1_indexOfChar_4cfef_1 : decode cJ1_indexOfChar_4cfef 1 = .ok (.i2b, 1) := by decide +kernel
theorem dJ1_indexOfChar_4cfef_2 : decode cJ1_indexOfChar_4cfef 2 = .ok (.istore 4, 2) := by decide +kernel
theorem dJ1_indexOfChar_4cfef_4 : decode cJ1_indexOfChar_4cfef 4 = .ok (.iload_n 2, 1) := by decide +kernel
theorem dJ1_indexOfChar_4cfef_5 : decode cJ1_indexOfChar_4cfef 5 = .ok (.istore 5, 2) := by decide +kernel
theorem dJ1_indexOfChar_4cfef_7 : decode cJ1_indexOfChar_4cfef 7 = .ok (.iload 5, 2) := by decide +kernel
theorem dJ1_indexOfChar_4cfef_9 : decode cJ1_indexOfChar_4cfef 9 = .ok (.iload_n 3, 1) := by decide +kernel
theorem dJ1_indexOfChar_4cfef_10 : decode cJ1_indexOfChar_4cfef 10 = .ok (.if_icmp .ge 21, 3) := by decide +kernel
theorem dJ1_indexOfChar_4cfef_13 : decode cJ1_indexOfChar_4cfef 13 = .ok (.aload_n 0, 1) := by decide +kernel
theorem dJ1_indexOfChar_4cfef_14 : decode cJ1_indexOfChar_4cfef 14 = .ok (.iload 5, 2) := by decide +kernel
theorem dJ1_indexOfChar_4cfef_16 : decode cJ1_indexOfChar_4cfef 16 = .ok (.baload, 1) := by decide +kernel
theorem dJ1_indexOfChar_4cfef_17 : decode cJ1_indexOfChar_4cfef 17 = .ok (.iload 4, 2) := by decide +kernel
theorem dJ1_indexOfChar_4cfef_19 : decode cJ1_indexOfChar_4cfef 19 = .ok (.if_icmp .ne 6, 3) := by decide +kernel
theorem dJ1_indexOfChar_4cfef_22 : decode cJ1_indexOfChar_4cfef 22 = .ok (.iload 5, 2) := by decide +kernel
theorem dJ1_indexOfChar_4cfef_24 : decode cJ1_indexOfChar_4cfef 24 = .ok (.ireturn, 1) := by decide +kernel
theorem dJ1_indexOfChar_4cfef_25 : decode cJ1_indexOfChar_4cfef 25 = .ok (.iinc 5 1, 3) := by decide +kernel
theorem dJ1_indexOfChar_4cfef_28 : decode cJ1_indexOfChar_4cfef 28 = .ok (.goto (-21), 3) := by decide +kernel
theorem dJ1_indexOfChar_4cfef_31 : decode cJ1_indexOfChar_4cfef 31 = .ok (.iconst (-1), 1) := by decide +kernel
theorem dJ1_indexOfChar_4cfef_32 : decode cJ1_indexOfChar_4cfef 32 = .ok (.ireturn, 1) := by decide +kernel
theorem dJ7_fill_53178_0 : decode cJ7_fill_53178 0 = .ok (.iconst 0, 1) := by decide +kernel
theorem dJ7_fill_53178_1 : decode cJ7_fill_53178 1 = .ok (.istore_n 2, 1) := by decide +kernel
theorem dJ7_fill_53178_2 : decode cJ7_fill_53178 2 = .ok (.aload_n 0, 1) := by decide +kernel
theorem dJ7_fill_53178_3 : decode cJ7_fill_53178 3 = .ok (.arraylength, 1) := by decide +kernel
theorem dJ7_fill_53178_4 : decode cJ7_fill_53178 4 = .ok (.istore_n 3, 1) := by decide +kernel
theorem dJ7_fill_53178_5 : decode cJ7_fill_53178 5 = .ok (.iload_n 2, 1) := by decide +kernel
theorem dJ7_fill_53178_6 : decode cJ7_fill_53178 6 = .ok (.iload_n 3, 1) := by decide +kernel
theorem dJ7_fill_53178_7 : decode cJ7_fill_53178 7 = .ok (.if_icmp .ge 13, 3) := by decide +kernel
theorem dJ7_fill_53178_10 : decode cJ7_fill_53178 10 = .ok (.aload_n 0, 1) := by decide +kernel
theorem dJ7_fill_53178_11 : decode cJ7_fill_53178 11 = .ok (.iload_n 2, 1) := by decide +kernel
theorem dJ7_fill_53178_12 : decode cJ7_fill_53178 12 = .ok (.iload_n 1, 1) := by decide +kernel
theorem dJ7_fill_53178_13 : decode cJ7_fill_53178 13 = .ok (.iastore, 1) := by decide +kernel
theorem dJ7_fill_53178_14 : decode cJ7_fill_53178 14 = .ok (.iinc 2 1, 3) := by decide +kernel
theorem dJ7_fill_53178_17 : decode cJ7_fill_53178 17 = .ok (.goto (-12), 3) := by decide +kernel
theorem dJ7_fill_53178_20 : decode cJ7_fill_53178 20 = .ok (.return_, 1) := by decide +kernel
theorem dJ7_copyOf_59c91_0 : decode cJ7_copyOf_59c91 0 = .ok (.iload_n 1, 1) := by decide +kernel
theorem dJ7_copyOf_59c91_1 : decode cJ7_copyOf_59c91 1 = .ok (.aload_n 0, 1) := by decide +kernel
theorem dJ7_copyOf_59c91_2 : decode cJ7_copyOf_59c91 2 = .ok (.arraylength, 1) := by decide +kernel
theorem dJ7_copyOf_59c91_3 : decode cJ7_copyOf_59c91 3 = .ok (.if_icmp .ne 11, 3) := by decide +kernel
theorem dJ7_copyOf_59c91_6 : decode cJ7_copyOf_59c91 6 = .ok (.aload_n 0, 1) := by decide +kernel
theorem dJ7_copyOf_59c91_7 : decode cJ7_copyOf_59c91 7 = .ok (.invokevirtual 316, 3) := by decide +kernel
theorem dJ7_copyOf_59c91_10 : decode cJ7_copyOf_59c91 10 = .ok (.checkcast 317, 3) := by decide +kernel
theorem dJ7_copyOf_59c91_13 : decode cJ7_copyOf_59c91 13 = .ok (.areturn, 1) := by decide +kernel
theorem dJ7_copyOf_59c91_14 : decode cJ7_copyOf_59c91 14 = .ok (.iload_n 1, 1) := by decide +kernel
theorem dJ7_copyOf_59c91_15 : decode cJ7_copyOf_59c91 15 = .ok (.newarray .int, 2) := by decide +kernel
theorem dJ7_copyOf_59c91_17 : decode cJ7_copyOf_59c91 17 = .ok (.astore_n 2, 1) := by decide +kernel
theorem dJ7_copyOf_59c91_18 : decode cJ7_copyOf_59c91 18 = .ok (.aload_n 0, 1) := by decide +kernel
theorem dJ7_copyOf_59c91_19 : decode cJ7_copyOf_59c91 19 = .ok (.iconst 0, 1) := by decide +kernel
theorem dJ7_copyOf_59c91_20 : decode cJ7_copyOf_59c91 20 = .ok (.aload_n 2, 1) := by decide +kernel
theorem dJ7_copyOf_59c91_21 : decode cJ7_copyOf_59c91 21 = .ok (.iconst 0, 1) := by decide +kernel
theorem dJ7_copyOf_59c91_22 : decode cJ7_copyOf_59c91 22 = .ok (.aload_n 0, 1) := by decide +kernel
theorem dJ7_copyOf_59c91_23 : decode cJ7_copyOf_59c91 23 = .ok (.arraylength, 1) := by decide +kernel
theorem dJ7_copyOf_59c91_24 : decode cJ7_copyOf_59c91 24 = .ok (.iload_n 1, 1) := by decide +kernel
theorem dJ7_copyOf_59c91_25 : decode cJ7_copyOf_59c91 25 = .ok (.invokestatic 304, 3) := by decide +kernel
theorem dJ7_copyOf_59c91_28 : decode cJ7_copyOf_59c91 28 = .ok (.invokestatic 150, 3) := by decide +kernel
theorem dJ7_copyOf_59c91_31 : decode cJ7_copyOf_59c91 31 = .ok (.aload_n 2, 1) := by decide +kernel
theorem dJ7_copyOf_59c91_32 : decode cJ7_copyOf_59c91 32 = .ok (.areturn, 1) := by decide +kernel
theorem dJ7_copyOf_c38d5_0 : decode cJ7_copyOf_c38d5 0 = .ok (.iload_n 1, 1) := by decide +kernel
theorem dJ7_copyOf_c38d5_1 : decode cJ7_copyOf_c38d5 1 = .ok (.aload_n 0, 1) := by decide +kernel
theorem dJ7_copyOf_c38d5_2 : decode cJ7_copyOf_c38d5 2 = .ok (.arraylength, 1) := by decide +kernel
theorem dJ7_copyOf_c38d5_3 : decode cJ7_copyOf_c38d5 3 = .ok (.if_icmp .ne 11, 3) := by decide +kernel
theorem dJ7_copyOf_c38d5_6 : decode cJ7_copyOf_c38d5 6 = .ok (.aload_n 0, 1) := by decide +kernel
theorem dJ7_copyOf_c38d5_7 : decode cJ7_copyOf_c38d5 7 = .ok (.invokevirtual 319, 3) := by decide +kernel
theorem dJ7_copyOf_c38d5_10 : decode cJ7_copyOf_c38d5 10 = .ok (.checkcast 320, 3) := by decide +kernel
theorem dJ7_copyOf_c38d5_13 : decode cJ7_copyOf_c38d5 13 = .ok (.areturn, 1) := by decide +kernel
theorem dJ7_copyOf_c38d5_14 : decode cJ7_copyOf_c38d5 14 = .ok (.iload_n 1, 1) := by decide +kernel
theorem dJ7_copyOf_c38d5_15 : decode cJ7_copyOf_c38d5 15 = .ok (.newarray .long, 2) := by decide +kernel
theorem dJ7_copyOf_c38d5_17 : decode cJ7_copyOf_c38d5 17 = .ok (.astore_n 2, 1) := by decide +kernel
theorem dJ7_copyOf_c38d5_18 : decode cJ7_copyOf_c38d5 18 = .ok (.aload_n 0, 1) := by decide +kernel
theorem dJ7_copyOf_c38d5_19 : decode cJ7_copyOf_c38d5 19 = .ok (.iconst 0, 1) := by decide +kernel
theorem dJ7_copyOf_c38d5_20 : decode cJ7_copyOf_c38d5 20 = .ok (.aload_n 2, 1) := by decide +kernel
theorem dJ7_copyOf_c38d5_21 : decode cJ7_copyOf_c38d5 21 = .ok (.iconst 0, 1) := by decide +kernel
theorem dJ7_copyOf_c38d5_22 : decode cJ7_copyOf_c38d5 22 = .ok (.aload_n 0, 1) := by decide +kernel
theorem dJ7_copyOf_c38d5_23 : decode cJ7_copyOf_c38d5 23 = .ok (.arraylength, 1) := by decide +kernel
theorem dJ7_copyOf_c38d5_24 : decode cJ7_copyOf_c38d5 24 = .ok (.iload_n 1, 1) := by decide +kernel
theorem dJ7_copyOf_c38d5_25 : decode cJ7_copyOf_c38d5 25 = .ok (.invokestatic 304, 3) := by decide +kernel
theorem dJ7_copyOf_c38d5_28 : decode cJ7_copyOf_c38d5 28 = .ok (.invokestatic 150, 3) := by decide +kernel
theorem dJ7_copyOf_c38d5_31 : decode cJ7_copyOf_c38d5 31 = .ok (.aload_n 2, 1) := by decide +kernel
theorem dJ7_copyOf_c38d5_32 : decode cJ7_copyOf_c38d5 32 = .ok (.areturn, 1) := by decide +kernel
theorem dJ3_checkIndex_8e157_0 : decode cJ3_checkIndex_8e157 0 = .ok (.iload_n 0, 1) := by decide +kernel
theorem dJ3_checkIndex_8e157_1 : decode cJ3_checkIndex_8e157 1 = .ok (.ifCond .lt 8, 3) := by decide +kernel
theorem dJ3_checkIndex_8e157_4 : decode cJ3_checkIndex_8e157 4 = .ok (.iload_n 0, 1) := by decide +kernel
theorem dJ3_checkIndex_8e157_5 : decode cJ3_checkIndex_8e157 5 = .ok (.iload_n 1, 1) := by decide +kernel
theorem dJ3_checkIndex_8e157_6 : decode cJ3_checkIndex_8e157 6 = .ok (.if_icmp .lt 10, 3) := by decide +kernel
theorem dJ3_checkIndex_8e157_9 : decode cJ3_checkIndex_8e157 9 = .ok (.aload_n 2, 1) := by decide +kernel
theorem dJ3_checkIndex_8e157_10 : decode cJ3_checkIndex_8e157 10 = .ok (.iload_n 0, 1) := by decide +kernel
theorem dJ3_checkIndex_8e157_11 : decode cJ3_checkIndex_8e157 11 = .ok (.iload_n 1, 1) := by decide +kernel
theorem dJ3_checkIndex_8e157_12 : decode cJ3_checkIndex_8e157 12 = .ok (.invokestatic 95, 3) := by decide +kernel
theorem dJ3_checkIndex_8e157_15 : decode cJ3_checkIndex_8e157 15 = .ok (.athrow, 1) := by decide +kernel
theorem dJ3_checkIndex_8e157_16 : decode cJ3_checkIndex_8e157 16 = .ok (.iload_n 0, 1) := by decide +kernel
theorem dJ3_checkIndex_8e157_17 : decode cJ3_checkIndex_8e157 17 = .ok (.ireturn, 1) := by decide +kernel
