theorem dX13_in_0 : decode cX13_in 0 = .ok (.iload_n 0, 1) := by decide +kernel
theorem dX13_in_1 : decode cX13_in 1 = .ok (.iload_n 1, 1) := by decide +kernel
theorem dX13_in_2 : decode cX13_in 2 = .ok (.if_icmp .lt 12, 3) := by decide +kernel
theorem dX13_in_5 : decode cX13_in 5 = .ok (.iload_n 0, 1) := by decide +kernel
theorem dX13_in_6 : decode cX13_in 6 = .ok (.iload_n 2, 1) := by decide +kernel
theorem dX13_in_7 : decode cX13_in 7 = .ok (.if_icmp .gt 7, 3) := by decide +kernel
theorem dX13_in_10 : decode cX13_in 10 = .ok (.iconst 1, 1) := by decide +kernel
theorem dX13_in_11 : decode cX13_in 11 = .ok (.goto 4, 3) := by decide +kernel
theorem dX13_in_14 : decode cX13_in 14 = .ok (.iconst 0, 1) := by decide +kernel
theorem dX13_in_15 : decode cX13_in 15 = .ok (.ireturn, 1) := by decide +kernel
theorem dX13_near_0 : decode cX13_near 0 = .ok (.lload_n 0, 1) := by decide +kernel
theorem dX13_near_1 : decode cX13_near 1 = .ok (.ldc2_w 246, 3) := by decide +kernel
theorem dX13_near_4 : decode cX13_near 4 = .ok (.lcmp, 1) := by decide +kernel
theorem dX13_near_5 : decode cX13_near 5 = .ok (.ifCond .ge 8, 3) := by decide +kernel
theorem dX13_near_8 : decode cX13_near 8 = .ok (.ldc 248, 2) := by decide +kernel
theorem dX13_near_10 : decode cX13_near 10 = .ok (.goto 18, 3) := by decide +kernel
theorem dX13_near_13 : decode cX13_near 13 = .ok (.lload_n 0, 1) := by decide +kernel
theorem dX13_near_14 : decode cX13_near 14 = .ok (.ldc2_w 249, 3) := by decide +kernel
theorem dX13_near_17 : decode cX13_near 17 = .ok (.lcmp, 1) := by decide +kernel
theorem dX13_near_18 : decode cX13_near 18 = .ok (.ifCond .le 8, 3) := by decide +kernel
theorem dX13_near_21 : decode cX13_near 21 = .ok (.ldc 251, 2) := by decide +kernel
theorem dX13_near_23 : decode cX13_near 23 = .ok (.goto 5, 3) := by decide +kernel
theorem dX13_near_26 : decode cX13_near 26 = .ok (.lload_n 0, 1) := by decide +kernel
theorem dX13_near_27 : decode cX13_near 27 = .ok (.l2i, 1) := by decide +kernel
theorem dX13_near_28 : decode cX13_near 28 = .ok (.ireturn, 1) := by decide +kernel
theorem dX13_feed_0 : decode cX13_feed 0 = .ok (.aload_n 0, 1) := by decide +kernel
theorem dX13_feed_1 : decode cX13_feed 1 = .ok (.getfield 252, 3) := by decide +kernel
theorem dX13_feed_4 : decode cX13_feed 4 = .ok (.bipush 20, 2) := by decide +kernel
theorem dX13_feed_6 : decode cX13_feed 6 = .ok (.iadd, 1) := by decide +kernel
theorem dX13_feed_7 : decode cX13_feed 7 = .ok (.sipush 600, 3) := by decide +kernel
theorem dX13_feed_10 : decode cX13_feed 10 = .ok (.if_icmp .le 5, 3) := by decide +kernel
theorem dX13_feed_13 : decode cX13_feed 13 = .ok (.iconst (-1), 1) := by decide +kernel
theorem dX13_feed_14 : decode cX13_feed 14 = .ok (.ireturn, 1) := by decide +kernel
theorem dX13_feed_15 : decode cX13_feed 15 = .ok (.iconst 0, 1) := by decide +kernel
theorem dX13_feed_16 : decode cX13_feed 16 = .ok (.istore 6, 2) := by decide +kernel
theorem dX13_feed_18 : decode cX13_feed 18 = .ok (.iload 6, 2) := by decide +kernel
theorem dX13_feed_20 : decode cX13_feed 20 = .ok (.bipush 20, 2) := by decide +kernel
theorem dX13_feed_22 : decode cX13_feed 22 = .ok (.if_icmp .ge 90, 3) := by decide +kernel
theorem dX13_feed_25 : decode cX13_feed 25 = .ok (.iload 6, 2) := by decide +kernel
theorem dX13_feed_27 : decode cX13_feed 27 = .ok (.iconst 4, 1) := by decide +kernel
theorem dX13_feed_28 : decode cX13_feed 28 = .ok (.if_icmp .ge 7, 3) := by decide +kernel
theorem dX13_feed_31 : decode cX13_feed 31 = .ok (.iload_n 1, 1) := by decide +kernel
theorem dX13_feed_32 : decode cX13_feed 32 = .ok (.goto 39, 3) := by decide +kernel
theorem dX13_feed_35 : decode cX13_feed 35 = .ok (.iload 6, 2) := by decide +kernel
theorem dX13_feed_37 : decode cX13_feed 37 = .ok (.bipush 8, 2) := by decide +kernel
theorem dX13_feed_39 : decode cX13_feed 39 = .ok (.if_icmp .ge 7, 3) := by decide +kernel
theorem dX13_feed_42 : decode cX13_feed 42 = .ok (.iload_n 2, 1) := by decide +kernel
theorem dX13_feed_43 : decode cX13_feed 43 = .ok (.goto 28, 3) := by decide +kernel
theorem dX13_feed_46 : decode cX13_feed 46 = .ok (.iload 6, 2) := by decide +kernel
theorem dX13_feed_48 : decode cX13_feed 48 = .ok (.bipush 12, 2) := by decide +kernel
theorem dX13_feed_50 : decode cX13_feed 50 = .ok (.if_icmp .ge 7, 3) := by decide +kernel
theorem dX13_feed_53 : decode cX13_feed 53 = .ok (.iload_n 3, 1) := by decide +kernel
theorem dX13_feed_54 : decode cX13_feed 54 = .ok (.goto 17, 3) := by decide +kernel
theorem dX13_feed_57 : decode cX13_feed 57 = .ok (.iload 6, 2) := by decide +kernel
theorem dX13_feed_59 : decode cX13_feed 59 = .ok (.bipush 16, 2) := by decide +kernel
theorem dX13_feed_61 : decode cX13_feed 61 = .ok (.if_icmp .ge 8, 3) := by decide +kernel
theorem dX13_feed_64 : decode cX13_feed 64 = .ok (.iload 4, 2) := by decide +kernel
theorem dX13_feed_66 : decode cX13_feed 66 = .ok (.goto 5, 3) := by decide +kernel
theorem dX13_feed_69 : decode cX13_feed 69 = .ok (.iload 5, 2) := by decide +kernel
theorem dX13_feed_71 : decode cX13_feed 71 = .ok (.istore 7, 2) := by decide +kernel
theorem dX13_feed_73 : decode cX13_feed 73 = .ok (.aload_n 0, 1) := by decide +kernel
theorem dX13_feed_74 : decode cX13_feed 74 = .ok (.getfield 9, 3) := by decide +kernel
theorem dX13_feed_77 : decode cX13_feed 77 = .ok (.aload_n 0, 1) := by decide +kernel
theorem dX13_feed_78 : decode cX13_feed 78 = .ok (.getfield 252, 3) := by decide +kernel
theorem dX13_feed_81 : decode cX13_feed 81 = .ok (.iload 7, 2) := by decide +kernel
theorem dX13_feed_83 : decode cX13_feed 83 = .ok (.bipush 24, 2) := by decide +kernel
theorem dX13_feed_85 : decode cX13_feed 85 = .ok (.bipush 8, 2) := by decide +kernel
theorem dX13_feed_87 : decode cX13_feed 87 = .ok (.iload 6, 2) := by decide +kernel
theorem dX13_feed_89 : decode cX13_feed 89 = .ok (.iconst 4, 1) := by decide +kernel
theorem dX13_feed_90 : decode cX13_feed 90 = .ok (.irem, 1) := by decide +kernel
theorem dX13_feed_91 : decode cX13_feed 91 = .ok (.imul, 1) := by decide +kernel
theorem dX13_feed_92 : decode cX13_feed 92 = .ok (.isub, 1) := by decide +kernel
theorem dX13_feed_93 : decode cX13_feed 93 = .ok (.ishr, 1) := by decide +kernel
theorem dX13_feed_94 : decode cX13_feed 94 = .ok (.i2b, 1) := by decide +kernel
theorem dX13_feed_95 : decode cX13_feed 95 = .ok (.bastore, 1) := by decide +kernel
theorem dX13_feed_96 : decode cX13_feed 96 = .ok (.aload_n 0, 1) := by decide +kernel
theorem dX13_feed_97 : decode cX13_feed 97 = .ok (.dup, 1) := by decide +kernel
theorem dX13_feed_98 : decode cX13_feed 98 = .ok (.getfield 252, 3) := by decide +kernel
theorem dX13_feed_101 : decode cX13_feed 101 = .ok (.iconst 1, 1) := by decide +kernel
theorem dX13_feed_102 : decode cX13_feed 102 = .ok (.iadd, 1) := by decide +kernel
theorem dX13_feed_103 : decode cX13_feed 103 = .ok (.putfield 252, 3) := by decide +kernel
theorem dX13_feed_106 : decode cX13_feed 106 = .ok (.iinc 6 1, 3) := by decide +kernel
theorem dX13_feed_109 : decode cX13_feed 109 = .ok (.goto (-91), 3) := by decide +kernel
theorem dX13_feed_112 : decode cX13_feed 112 = .ok (.aload_n 0, 1) := by decide +kernel
theorem dX13_feed_113 : decode cX13_feed 113 = .ok (.getfield 252, 3) := by decide +kernel
theorem dX13_feed_116 : decode cX13_feed 116 = .ok (.ireturn, 1) := by decide +kernel
theorem dX13_end_0 : decode cX13_end 0 = .ok (.iload_n 1, 1) := by decide +kernel
theorem dX13_end_1 : decode cX13_end 1 = .ok (.iconst 0, 1) := by decide +kernel
theorem dX13_end_2 : decode cX13_end 2 = .ok (.aload_n 0, 1) := by decide +kernel
theorem dX13_end_3 : decode cX13_end 3 = .ok (.getfield 252, 3) := by decide +kernel
theorem dX13_end_6 : decode cX13_end 6 = .ok (.invokestatic 256, 3) := by decide +kernel
theorem dX13_end_9 : decode cX13_end 9 = .ok (.ifCond .ne 5, 3) := by decide +kernel
theorem dX13_end_12 : decode cX13_end 12 = .ok (.iconst 0, 1) := by decide +kernel
theorem dX13_end_13 : decode cX13_end 13 = .ok (.ireturn, 1) := by decide +kernel
theorem dX13_end_14 : decode cX13_end 14 = .ok (.aload_n 0, 1) := by decide +kernel
theorem dX13_end_15 : decode cX13_end 15 = .ok (.iload_n 1, 1) := by decide +kernel
theorem dX13_end_16 : decode cX13_end 16 = .ok (.putfield 252, 3) := by decide +kernel
theorem dX13_end_19 : decode cX13_end 19 = .ok (.iconst 1, 1) := by decide +kernel
theorem dX13_end_20 : decode cX13_end 20 = .ok (.ireturn, 1) := by decide +kernel
theorem dX13_isLetter_0 : decode cX13_isLetter 0 = .ok (.iload_n 0, 1) := by decide +kernel
theorem dX13_isLetter_1 : decode cX13_isLetter 1 = .ok (.bipush 97, 2) := by decide +kernel
theorem dX13_isLetter_3 : decode cX13_isLetter 3 = .ok (.if_icmp .lt 13, 3) := by decide +kernel
theorem dX13_isLetter_6 : decode cX13_isLetter 6 = .ok (.iload_n 0, 1) := by decide +kernel
theorem dX13_isLetter_7 : decode cX13_isLetter 7 = .ok (.bipush 122, 2) := by decide +kernel
theorem dX13_isLetter_9 : decode cX13_isLetter 9 = .ok (.if_icmp .gt 7, 3) := by decide +kernel
theorem dX13_isLetter_12 : decode cX13_isLetter 12 = .ok (.iconst 1, 1) := by decide +kernel
theorem dX13_isLetter_13 : decode cX13_isLetter 13 = .ok (.goto 4, 3) := by decide +kernel
theorem dX13_isLetter_16 : decode cX13_isLetter 16 = .ok (.iconst 0, 1) := by decide +kernel
theorem dX13_isLetter_17 : decode cX13_isLetter 17 = .ok (.ireturn, 1) := by decide +kernel
theorem dX13_isDigit_0 : decode cX13_isDigit 0 = .ok (.iload_n 0, 1) := by decide +kernel
theorem dX13_isDigit_1 : decode cX13_isDigit 1 = .ok (.bipush 48, 2) := by decide +kernel
theorem dX13_isDigit_3 : decode cX13_isDigit 3 = .ok (.if_icmp .lt 13, 3) := by decide +kernel
theorem dX13_isDigit_6 : decode cX13_isDigit 6 = .ok (.iload_n 0, 1) := by decide +kernel
theorem dX13_isDigit_7 : decode cX13_isDigit 7 = .ok (.bipush 57, 2) := by decide +kernel
theorem dX13_isDigit_9 : decode cX13_isDigit 9 = .ok (.if_icmp .gt 7, 3) := by decide +kernel
theorem dX13_isDigit_12 : decode cX13_isDigit 12 = .ok (.iconst 1, 1) := by decide +kernel
theorem dX13_isDigit_13 : decode cX13_isDigit 13 = .ok (.goto 4, 3) := by decide +kernel
theorem dX13_isDigit_16 : decode cX13_isDigit 16 = .ok (.iconst 0, 1) := by decide +kernel
theorem dX13_isDigit_17 : decode cX13_isDigit 17 = .ok (.ireturn, 1) := by decide +kernel
theorem dX13_wordAt_0 : decode cX13_wordAt 0 = .ok (.iconst 0, 1) := by decide +kernel
theorem dX13_wordAt_1 : decode cX13_wordAt 1 = .ok (.istore_n 3, 1) := by decide +kernel
theorem dX13_wordAt_2 : decode cX13_wordAt 2 = .ok (.iconst 1, 1) := by decide +kernel
theorem dX13_wordAt_3 : decode cX13_wordAt 3 = .ok (.istore 4, 2) := by decide +kernel
theorem dX13_wordAt_5 : decode cX13_wordAt 5 = .ok (.iload 4, 2) := by decide +kernel
theorem dX13_wordAt_7 : decode cX13_wordAt 7 = .ok (.ldc_w 260, 3) := by decide +kernel
theorem dX13_wordAt_10 : decode cX13_wordAt 10 = .ok (.invokevirtual 262, 3) := by decide +kernel
theorem dX13_wordAt_13 : decode cX13_wordAt 13 = .ok (.if_icmp .ge 116, 3) := by decide +kernel
theorem dX13_wordAt_16 : decode cX13_wordAt 16 = .ok (.iconst 0, 1) := by decide +kernel
theorem dX13_wordAt_17 : decode cX13_wordAt 17 = .ok (.istore 5, 2) := by decide +kernel
theorem dX13_wordAt_19 : decode cX13_wordAt 19 = .ok (.ldc_w 260, 3) := by decide +kernel
theorem dX13_wordAt_22 : decode cX13_wordAt 22 = .ok (.iload 4, 2) := by decide +kernel
theorem dX13_wordAt_24 : decode cX13_wordAt 24 = .ok (.iload 5, 2) := by decide +kernel
theorem dX13_wordAt_26 : decode cX13_wordAt 26 = .ok (.iadd, 1) := by decide +kernel
theorem dX13_wordAt_27 : decode cX13_wordAt 27 = .ok (.invokevirtual 268, 3) := by decide +kernel
theorem dX13_wordAt_30 : decode cX13_wordAt 30 = .ok (.bipush 32, 2) := by decide +kernel
theorem dX13_wordAt_32 : decode cX13_wordAt 32 = .ok (.if_icmp .eq 9, 3) := by decide +kernel
theorem dX13_wordAt_35 : decode cX13_wordAt 35 = .ok (.iinc 5 1, 3) := by decide +kernel
theorem dX13_wordAt_38 : decode cX13_wordAt 38 = .ok (.goto (-19), 3) := by decide +kernel
theorem dX13_wordAt_41 : decode cX13_wordAt 41 = .ok (.iload 5, 2) := by decide +kernel
theorem dX13_wordAt_43 : decode cX13_wordAt 43 = .ok (.iload_n 2, 1) := by decide +kernel
theorem dX13_wordAt_44 : decode cX13_wordAt 44 = .ok (.iload_n 1, 1) := by decide +kernel
theorem dX13_wordAt_45 : decode cX13_wordAt 45 = .ok (.isub, 1) := by decide +kernel
theorem dX13_wordAt_46 : decode cX13_wordAt 46 = .ok (.if_icmp .ne 7, 3) := by decide +kernel
theorem dX13_wordAt_49 : decode cX13_wordAt 49 = .ok (.iconst 1, 1) := by decide +kernel
theorem dX13_wordAt_50 : decode cX13_wordAt 50 = .ok (.goto 4, 3) := by decide +kernel
theorem dX13_wordAt_53 : decode cX13_wordAt 53 = .ok (.iconst 0, 1) := by decide +kernel
theorem dX13_wordAt_54 : decode cX13_wordAt 54 = .ok (.istore 6, 2) := by decide +kernel
theorem dX13_wordAt_56 : decode cX13_wordAt 56 = .ok (.iconst 0, 1) := by decide +kernel
theorem dX13_wordAt_57 : decode cX13_wordAt 57 = .ok (.istore 7, 2) := by decide +kernel
theorem dX13_wordAt_59 : decode cX13_wordAt 59 = .ok (.iload 7, 2) := by decide +kernel
theorem dX13_wordAt_61 : decode cX13_wordAt 61 = .ok (.iload 5, 2) := by decide +kernel
theorem dX13_wordAt_63 : decode cX13_wordAt 63 = .ok (.if_icmp .ge 44, 3) := by decide +kernel
theorem dX13_wordAt_66 : decode cX13_wordAt 66 = .ok (.iload 6, 2) := by decide +kernel
theorem dX13_wordAt_68 : decode cX13_wordAt 68 = .ok (.ifCond .eq 39, 3) := by decide +kernel
theorem dX13_wordAt_71 : decode cX13_wordAt 71 = .ok (.ldc_w 260, 3) := by decide +kernel
theorem dX13_wordAt_74 : decode cX13_wordAt 74 = .ok (.iload 4, 2) := by decide +kernel
theorem dX13_wordAt_76 : decode cX13_wordAt 76 = .ok (.iload 7, 2) := by decide +kernel
theorem dX13_wordAt_78 : decode cX13_wordAt 78 = .ok (.iadd, 1) := by decide +kernel
theorem dX13_wordAt_79 : decode cX13_wordAt 79 = .ok (.invokevirtual 268, 3) := by decide +kernel
theorem dX13_wordAt_82 : decode cX13_wordAt 82 = .ok (.aload_n 0, 1) := by decide +kernel
theorem dX13_wordAt_83 : decode cX13_wordAt 83 = .ok (.getfield 9, 3) := by decide +kernel
theorem dX13_wordAt_86 : decode cX13_wordAt 86 = .ok (.iload_n 1, 1) := by decide +kernel
theorem dX13_wordAt_87 : decode cX13_wordAt 87 = .ok (.iload 7, 2) := by decide +kernel
theorem dX13_wordAt_89 : decode cX13_wordAt 89 = .ok (.iadd, 1) := by decide +kernel
theorem dX13_wordAt_90 : decode cX13_wordAt 90 = .ok (.baload, 1) := by decide +kernel
theorem dX13_wordAt_91 : decode cX13_wordAt 91 = .ok (.if_icmp .ne 7, 3) := by decide +kernel
theorem dX13_wordAt_94 : decode cX13_wordAt 94 = .ok (.iconst 1, 1) := by decide +kernel
theorem dX13_wordAt_95 : decode cX13_wordAt 95 = .ok (.goto 4, 3) := by decide +kernel
theorem dX13_wordAt_98 : decode cX13_wordAt 98 = .ok (.iconst 0, 1) := by decide +kernel
theorem dX13_wordAt_99 : decode cX13_wordAt 99 = .ok (.istore 6, 2) := by decide +kernel
theorem dX13_wordAt_101 : decode cX13_wordAt 101 = .ok (.iinc 7 1, 3) := by decide +kernel
theorem dX13_wordAt_104 : decode cX13_wordAt 104 = .ok (.goto (-45), 3) := by decide +kernel
theorem dX13_wordAt_107 : decode cX13_wordAt 107 = .ok (.iload 6, 2) := by decide +kernel
theorem dX13_wordAt_109 : decode cX13_wordAt 109 = .ok (.ifCond .eq 5, 3) := by decide +kernel
theorem dX13_wordAt_112 : decode cX13_wordAt 112 = .ok (.iload_n 3, 1) := by decide +kernel
theorem dX13_wordAt_113 : decode cX13_wordAt 113 = .ok (.ireturn, 1) := by decide +kernel
theorem dX13_wordAt_114 : decode cX13_wordAt 114 = .ok (.iinc 3 1, 3) := by decide +kernel
theorem dX13_wordAt_117 : decode cX13_wordAt 117 = .ok (.iload 4, 2) := by decide +kernel
theorem dX13_wordAt_119 : decode cX13_wordAt 119 = .ok (.iload 5, 2) := by decide +kernel
theorem dX13_wordAt_121 : decode cX13_wordAt 121 = .ok (.iconst 1, 1) := by decide +kernel
theorem dX13_wordAt_122 : decode cX13_wordAt 122 = .ok (.iadd, 1) := by decide +kernel
theorem dX13_wordAt_123 : decode cX13_wordAt 123 = .ok (.iadd, 1) := by decide +kernel
theorem dX13_wordAt_124 : decode cX13_wordAt 124 = .ok (.istore 4, 2) := by decide +kernel
theorem dX13_wordAt_126 : decode cX13_wordAt 126 = .ok (.goto (-121), 3) := by decide +kernel
theorem dX13_wordAt_129 : decode cX13_wordAt 129 = .ok (.iconst (-1), 1) := by decide +kernel
theorem dX13_wordAt_130 : decode cX13_wordAt 130 = .ok (.ireturn, 1) := by decide +kernel
theorem dX13_next_0 : decode cX13_next 0 = .ok (.aload_n 0, 1) := by decide +kernel
theorem dX13_next_1 : decode cX13_next 1 = .ok (.getfield 272, 3) := by decide +kernel
theorem dX13_next_4 : decode cX13_next 4 = .ok (.aload_n 0, 1) := by decide +kernel
theorem dX13_next_5 : decode cX13_next 5 = .ok (.getfield 252, 3) := by decide +kernel
theorem dX13_next_8 : decode cX13_next 8 = .ok (.if_icmp .ge 44, 3) := by decide +kernel
theorem dX13_next_11 : decode cX13_next 11 = .ok (.aload_n 0, 1) := by decide +kernel
theorem dX13_next_12 : decode cX13_next 12 = .ok (.getfield 9, 3) := by decide +kernel
theorem dX13_next_15 : decode cX13_next 15 = .ok (.aload_n 0, 1) := by decide +kernel
theorem dX13_next_16 : decode cX13_next 16 = .ok (.getfield 272, 3) := by decide +kernel
theorem dX13_next_19 : decode cX13_next 19 = .ok (.baload, 1) := by decide +kernel
theorem dX13_next_20 : decode cX13_next 20 = .ok (.bipush 32, 2) := by decide +kernel
theorem dX13_next_22 : decode cX13_next 22 = .ok (.if_icmp .eq 17, 3) := by decide +kernel
theorem dX13_next_25 : decode cX13_next 25 = .ok (.aload_n 0, 1) := by decide +kernel
theorem dX13_next_26 : decode cX13_next 26 = .ok (.getfield 9, 3) := by decide +kernel
theorem dX13_next_29 : decode cX13_next 29 = .ok (.aload_n 0, 1) := by decide +kernel
theorem dX13_next_30 : decode cX13_next 30 = .ok (.getfield 272, 3) := by decide +kernel
theorem dX13_next_33 : decode cX13_next 33 = .ok (.baload, 1) := by decide +kernel
theorem dX13_next_34 : decode cX13_next 34 = .ok (.bipush 10, 2) := by decide +kernel
theorem dX13_next_36 : decode cX13_next 36 = .ok (.if_icmp .ne 16, 3) := by decide +kernel
theorem dX13_next_39 : decode cX13_next 39 = .ok (.aload_n 0, 1) := by decide +kernel
theorem dX13_next_40 : decode cX13_next 40 = .ok (.dup, 1) := by decide +kernel
theorem dX13_next_41 : decode cX13_next 41 = .ok (.getfield 272, 3) := by decide +kernel
theorem dX13_next_44 : decode cX13_next 44 = .ok (.iconst 1, 1) := by decide +kernel
theorem dX13_next_45 : decode cX13_next 45 = .ok (.iadd, 1) := by decide +kernel
theorem dX13_next_46 : decode cX13_next 46 = .ok (.putfield 272, 3) := by decide +kernel
theorem dX13_next_49 : decode cX13_next 49 = .ok (.goto (-49), 3) := by decide +kernel
theorem dX13_next_52 : decode cX13_next 52 = .ok (.aload_n 0, 1) := by decide +kernel
theorem dX13_next_53 : decode cX13_next 53 = .ok (.aload_n 0, 1) := by decide +kernel
theorem dX13_next_54 : decode cX13_next 54 = .ok (.getfield 272, 3) := by decide +kernel
theorem dX13_next_57 : decode cX13_next 57 = .ok (.putfield 275, 3) := by decide +kernel
theorem dX13_next_60 : decode cX13_next 60 = .ok (.aload_n 0, 1) := by decide +kernel
theorem dX13_next_61 : decode cX13_next 61 = .ok (.iconst 0, 1) := by decide +kernel
theorem dX13_next_62 : decode cX13_next 62 = .ok (.putfield 278, 3) := by decide +kernel
theorem dX13_next_65 : decode cX13_next 65 = .ok (.aload_n 0, 1) := by decide +kernel
theorem dX13_next_66 : decode cX13_next 66 = .ok (.iconst 0, 1) := by decide +kernel
theorem dX13_next_67 : decode cX13_next 67 = .ok (.putfield 281, 3) := by decide +kernel
theorem dX13_next_70 : decode cX13_next 70 = .ok (.aload_n 0, 1) := by decide +kernel
theorem dX13_next_71 : decode cX13_next 71 = .ok (.getfield 272, 3) := by decide +kernel
theorem dX13_next_74 : decode cX13_next 74 = .ok (.aload_n 0, 1) := by decide +kernel
theorem dX13_next_75 : decode cX13_next 75 = .ok (.getfield 252, 3) := by decide +kernel
theorem dX13_next_78 : decode cX13_next 78 = .ok (.if_icmp .ne 4, 3) := by decide +kernel
theorem dX13_next_81 : decode cX13_next 81 = .ok (.return_, 1) := by decide +kernel
theorem dX13_next_82 : decode cX13_next 82 = .ok (.aload_n 0, 1) := by decide +kernel
theorem dX13_next_83 : decode cX13_next 83 = .ok (.getfield 9, 3) := by decide +kernel
theorem dX13_next_86 : decode cX13_next 86 = .ok (.aload_n 0, 1) := by decide +kernel
theorem dX13_next_87 : decode cX13_next 87 = .ok (.getfield 272, 3) := by decide +kernel
theorem dX13_next_90 : decode cX13_next 90 = .ok (.baload, 1) := by decide +kernel
theorem dX13_next_91 : decode cX13_next 91 = .ok (.istore_n 1, 1) := by decide +kernel
theorem dX13_next_92 : decode cX13_next 92 = .ok (.iload_n 1, 1) := by decide +kernel
theorem dX13_next_93 : decode cX13_next 93 = .ok (.invokestatic 284, 3) := by decide +kernel
theorem dX13_next_96 : decode cX13_next 96 = .ok (.ifCond .eq 66, 3) := by decide +kernel
theorem dX13_next_99 : decode cX13_next 99 = .ok (.aload_n 0, 1) := by decide +kernel
theorem dX13_next_100 : decode cX13_next 100 = .ok (.getfield 272, 3) := by decide +kernel
theorem dX13_next_103 : decode cX13_next 103 = .ok (.aload_n 0, 1) := by decide +kernel
theorem dX13_next_104 : decode cX13_next 104 = .ok (.getfield 252, 3) := by decide +kernel
theorem dX13_next_107 : decode cX13_next 107 = .ok (.if_icmp .ge 31, 3) := by decide +kernel
theorem dX13_next_110 : decode cX13_next 110 = .ok (.aload_n 0, 1) := by decide +kernel
theorem dX13_next_111 : decode cX13_next 111 = .ok (.getfield 9, 3) := by decide +kernel
theorem dX13_next_114 : decode cX13_next 114 = .ok (.aload_n 0, 1) := by decide +kernel
theorem dX13_next_115 : decode cX13_next 115 = .ok (.getfield 272, 3) := by decide +kernel
theorem dX13_next_118 : decode cX13_next 118 = .ok (.baload, 1) := by decide +kernel
theorem dX13_next_119 : decode cX13_next 119 = .ok (.invokestatic 284, 3) := by decide +kernel
theorem dX13_next_122 : decode cX13_next 122 = .ok (.ifCond .eq 16, 3) := by decide +kernel
theorem dX13_next_125 : decode cX13_next 125 = .ok (.aload_n 0, 1) := by decide +kernel
theorem dX13_next_126 : decode cX13_next 126 = .ok (.dup, 1) := by decide +kernel
theorem dX13_next_127 : decode cX13_next 127 = .ok (.getfield 272, 3) := by decide +kernel
theorem dX13_next_130 : decode cX13_next 130 = .ok (.iconst 1, 1) := by decide +kernel
theorem dX13_next_131 : decode cX13_next 131 = .ok (.iadd, 1) := by decide +kernel
theorem dX13_next_132 : decode cX13_next 132 = .ok (.putfield 272, 3) := by decide +kernel
theorem dX13_next_135 : decode cX13_next 135 = .ok (.goto (-36), 3) := by decide +kernel
theorem dX13_next_138 : decode cX13_next 138 = .ok (.aload_n 0, 1) := by decide +kernel
theorem dX13_next_139 : decode cX13_next 139 = .ok (.iconst 2, 1) := by decide +kernel
theorem dX13_next_140 : decode cX13_next 140 = .ok (.putfield 281, 3) := by decide +kernel
theorem dX13_next_143 : decode cX13_next 143 = .ok (.aload_n 0, 1) := by decide +kernel
theorem dX13_next_144 : decode cX13_next 144 = .ok (.aload_n 0, 1) := by decide +kernel
theorem dX13_next_145 : decode cX13_next 145 = .ok (.aload_n 0, 1) := by decide +kernel
theorem dX13_next_146 : decode cX13_next 146 = .ok (.getfield 275, 3) := by decide +kernel
theorem dX13_next_149 : decode cX13_next 149 = .ok (.aload_n 0, 1) := by decide +kernel
theorem dX13_next_150 : decode cX13_next 150 = .ok (.getfield 272, 3) := by decide +kernel
theorem dX13_next_153 : decode cX13_next 153 = .ok (.invokevirtual 288, 3) := by decide +kernel
theorem dX13_next_156 : decode cX13_next 156 = .ok (.putfield 278, 3) := by decide +kernel
theorem dX13_next_159 : decode cX13_next 159 = .ok (.goto 199, 3) := by decide +kernel
theorem dX13_next_162 : decode cX13_next 162 = .ok (.iload_n 1, 1) := by decide +kernel
theorem dX13_next_163 : decode cX13_next 163 = .ok (.invokestatic 292, 3) := by decide +kernel
theorem dX13_next_166 : decode cX13_next 166 = .ok (.ifCond .eq 90, 3) := by decide +kernel
theorem dX13_next_169 : decode cX13_next 169 = .ok (.aload_n 0, 1) := by decide +kernel
theorem dX13_next_170 : decode cX13_next 170 = .ok (.getfield 272, 3) := by decide +kernel
theorem dX13_next_173 : decode cX13_next 173 = .ok (.aload_n 0, 1) := by decide +kernel
theorem dX13_next_174 : decode cX13_next 174 = .ok (.getfield 252, 3) := by decide +kernel
theorem dX13_next_177 : decode cX13_next 177 = .ok (.if_icmp .ge 71, 3) := by decide +kernel
theorem dX13_next_180 : decode cX13_next 180 = .ok (.aload_n 0, 1) := by decide +kernel
theorem dX13_next_181 : decode cX13_next 181 = .ok (.getfield 9, 3) := by decide +kernel
theorem dX13_next_184 : decode cX13_next 184 = .ok (.aload_n 0, 1) := by decide +kernel
theorem dX13_next_185 : decode cX13_next 185 = .ok (.getfield 272, 3) := by decide +kernel
theorem dX13_next_188 : decode cX13_next 188 = .ok (.baload, 1) := by decide +kernel
theorem dX13_next_189 : decode cX13_next 189 = .ok (.invokestatic 292, 3) := by decide +kernel
theorem dX13_next_192 : decode cX13_next 192 = .ok (.ifCond .eq 56, 3) := by decide +kernel
theorem dX13_next_195 : decode cX13_next 195 = .ok (.aload_n 0, 1) := by decide +kernel
theorem dX13_next_196 : decode cX13_next 196 = .ok (.aload_n 0, 1) := by decide +kernel
theorem dX13_next_197 : decode cX13_next 197 = .ok (.getfield 278, 3) := by decide +kernel
theorem dX13_next_200 : decode cX13_next 200 = .ok (.ldc 251, 2) := by decide +kernel
theorem dX13_next_202 : decode cX13_next 202 = .ok (.if_icmp .le 10, 3) := by decide +kernel
theorem dX13_next_205 : decode cX13_next 205 = .ok (.aload_n 0, 1) := by decide +kernel
theorem dX13_next_206 : decode cX13_next 206 = .ok (.getfield 278, 3) := by decide +kernel
theorem dX13_next_209 : decode cX13_next 209 = .ok (.goto 23, 3) := by decide +kernel
theorem dX13_next_212 : decode cX13_next 212 = .ok (.bipush 10, 2) := by decide +kernel
theorem dX13_next_214 : decode cX13_next 214 = .ok (.aload_n 0, 1) := by decide +kernel
theorem dX13_next_215 : decode cX13_next 215 = .ok (.getfield 278, 3) := by decide +kernel
theorem dX13_next_218 : decode cX13_next 218 = .ok (.imul, 1) := by decide +kernel
theorem dX13_next_219 : decode cX13_next 219 = .ok (.aload_n 0, 1) := by decide +kernel
theorem dX13_next_220 : decode cX13_next 220 = .ok (.getfield 9, 3) := by decide +kernel
theorem dX13_next_223 : decode cX13_next 223 = .ok (.aload_n 0, 1) := by decide +kernel
theorem dX13_next_224 : decode cX13_next 224 = .ok (.getfield 272, 3) := by decide +kernel
theorem dX13_next_227 : decode cX13_next 227 = .ok (.baload, 1) := by decide +kernel
theorem dX13_next_228 : decode cX13_next 228 = .ok (.iadd, 1) := by decide +kernel
theorem dX13_next_229 : decode cX13_next 229 = .ok (.bipush 48, 2) := by decide +kernel
theorem dX13_next_231 : decode cX13_next 231 = .ok (.isub, 1) := by decide +kernel
theorem dX13_next_232 : decode cX13_next 232 = .ok (.putfield 278, 3) := by decide +kernel
theorem dX13_next_235 : decode cX13_next 235 = .ok (.aload_n 0, 1) := by decide +kernel
theorem dX13_next_236 : decode cX13_next 236 = .ok (.dup, 1) := by decide +kernel
theorem dX13_next_237 : decode cX13_next 237 = .ok (.getfield 272, 3) := by decide +kernel
theorem dX13_next_240 : decode cX13_next 240 = .ok (.iconst 1, 1) := by decide +kernel
theorem dX13_next_241 : decode cX13_next 241 = .ok (.iadd, 1) := by decide +kernel
theorem dX13_next_242 : decode cX13_next 242 = .ok (.putfield 272, 3) := by decide +kernel
theorem dX13_next_245 : decode cX13_next 245 = .ok (.goto (-76), 3) := by decide +kernel
theorem dX13_next_248 : decode cX13_next 248 = .ok (.aload_n 0, 1) := by decide +kernel
theorem dX13_next_249 : decode cX13_next 249 = .ok (.iconst 1, 1) := by decide +kernel
theorem dX13_next_250 : decode cX13_next 250 = .ok (.putfield 281, 3) := by decide +kernel
theorem dX13_next_253 : decode cX13_next 253 = .ok (.goto 105, 3) := by decide +kernel
theorem dX13_next_256 : decode cX13_next 256 = .ok (.aload_n 0, 1) := by decide +kernel
theorem dX13_next_257 : decode cX13_next 257 = .ok (.iload_n 1, 1) := by decide +kernel
theorem dX13_next_258 : decode cX13_next 258 = .ok (.bipush 43, 2) := by decide +kernel
theorem dX13_next_260 : decode cX13_next 260 = .ok (.if_icmp .eq 75, 3) := by decide +kernel
theorem dX13_next_263 : decode cX13_next 263 = .ok (.iload_n 1, 1) := by decide +kernel
theorem dX13_next_264 : decode cX13_next 264 = .ok (.bipush 45, 2) := by decide +kernel
theorem dX13_next_266 : decode cX13_next 266 = .ok (.if_icmp .eq 69, 3) := by decide +kernel
theorem dX13_next_269 : decode cX13_next 269 = .ok (.iload_n 1, 1) := by decide +kernel
theorem dX13_next_270 : decode cX13_next 270 = .ok (.bipush 42, 2) := by decide +kernel
theorem dX13_next_272 : decode cX13_next 272 = .ok (.if_icmp .eq 63, 3) := by decide +kernel
theorem dX13_next_275 : decode cX13_next 275 = .ok (.iload_n 1, 1) := by decide +kernel
theorem dX13_next_276 : decode cX13_next 276 = .ok (.bipush 47, 2) := by decide +kernel
theorem dX13_next_278 : decode cX13_next 278 = .ok (.if_icmp .eq 57, 3) := by decide +kernel
theorem dX13_next_281 : decode cX13_next 281 = .ok (.iload_n 1, 1) := by decide +kernel
theorem dX13_next_282 : decode cX13_next 282 = .ok (.bipush 40, 2) := by decide +kernel
theorem dX13_next_284 : decode cX13_next 284 = .ok (.if_icmp .eq 51, 3) := by decide +kernel
theorem dX13_next_287 : decode cX13_next 287 = .ok (.iload_n 1, 1) := by decide +kernel
theorem dX13_next_288 : decode cX13_next 288 = .ok (.bipush 41, 2) := by decide +kernel
theorem dX13_next_290 : decode cX13_next 290 = .ok (.if_icmp .eq 45, 3) := by decide +kernel
theorem dX13_next_293 : decode cX13_next 293 = .ok (.iload_n 1, 1) := by decide +kernel
theorem dX13_next_294 : decode cX13_next 294 = .ok (.bipush 91, 2) := by decide +kernel
theorem dX13_next_296 : decode cX13_next 296 = .ok (.if_icmp .eq 39, 3) := by decide +kernel
theorem dX13_next_299 : decode cX13_next 299 = .ok (.iload_n 1, 1) := by decide +kernel
theorem dX13_next_300 : decode cX13_next 300 = .ok (.bipush 93, 2) := by decide +kernel
theorem dX13_next_302 : decode cX13_next 302 = .ok (.if_icmp .eq 33, 3) := by decide +kernel
theorem dX13_next_305 : decode cX13_next 305 = .ok (.iload_n 1, 1) := by decide +kernel
theorem dX13_next_306 : decode cX13_next 306 = .ok (.bipush 44, 2) := by decide +kernel
theorem dX13_next_308 : decode cX13_next 308 = .ok (.if_icmp .eq 27, 3) := by decide +kernel
theorem dX13_next_311 : decode cX13_next 311 = .ok (.iload_n 1, 1) := by decide +kernel
theorem dX13_next_312 : decode cX13_next 312 = .ok (.bipush 60, 2) := by decide +kernel
theorem dX13_next_314 : decode cX13_next 314 = .ok (.if_icmp .eq 21, 3) := by decide +kernel
theorem dX13_next_317 : decode cX13_next 317 = .ok (.iload_n 1, 1) := by decide +kernel
theorem dX13_next_318 : decode cX13_next 318 = .ok (.bipush 62, 2) := by decide +kernel
theorem dX13_next_320 : decode cX13_next 320 = .ok (.if_icmp .eq 15, 3) := by decide +kernel
theorem dX13_next_323 : decode cX13_next 323 = .ok (.iload_n 1, 1) := by decide +kernel
theorem dX13_next_324 : decode cX13_next 324 = .ok (.bipush 61, 2) := by decide +kernel
theorem dX13_next_326 : decode cX13_next 326 = .ok (.if_icmp .eq 9, 3) := by decide +kernel
theorem dX13_next_329 : decode cX13_next 329 = .ok (.iload_n 1, 1) := by decide +kernel
theorem dX13_next_330 : decode cX13_next 330 = .ok (.bipush 59, 2) := by decide +kernel
theorem dX13_next_332 : decode cX13_next 332 = .ok (.if_icmp .ne 7, 3) := by decide +kernel
theorem dX13_next_335 : decode cX13_next 335 = .ok (.iconst 3, 1) := by decide +kernel
theorem dX13_next_336 : decode cX13_next 336 = .ok (.goto 4, 3) := by decide +kernel
theorem dX13_next_339 : decode cX13_next 339 = .ok (.iconst 4, 1) := by decide +kernel
theorem dX13_next_340 : decode cX13_next 340 = .ok (.putfield 281, 3) := by decide +kernel
theorem dX13_next_343 : decode cX13_next 343 = .ok (.aload_n 0, 1) := by decide +kernel
theorem dX13_next_344 : decode cX13_next 344 = .ok (.iload_n 1, 1) := by decide +kernel
theorem dX13_next_345 : decode cX13_next 345 = .ok (.putfield 278, 3) := by decide +kernel
theorem dX13_next_348 : decode cX13_next 348 = .ok (.aload_n 0, 1) := by decide +kernel
theorem dX13_next_349 : decode cX13_next 349 = .ok (.dup, 1) := by decide +kernel
theorem dX13_next_350 : decode cX13_next 350 = .ok (.getfield 272, 3) := by decide +kernel
theorem dX13_next_353 : decode cX13_next 353 = .ok (.iconst 1, 1) := by decide +kernel
theorem dX13_next_354 : decode cX13_next 354 = .ok (.iadd, 1) := by decide +kernel
theorem dX13_next_355 : decode cX13_next 355 = .ok (.putfield 272, 3) := by decide +kernel
theorem dX13_next_358 : decode cX13_next 358 = .ok (.return_, 1) := by decide +kernel
theorem dX13_isSign_0 : decode cX13_isSign 0 = .ok (.aload_n 0, 1) := by decide +kernel
theorem dX13_isSign_1 : decode cX13_isSign 1 = .ok (.getfield 281, 3) := by decide +kernel
theorem dX13_isSign_4 : decode cX13_isSign 4 = .ok (.iconst 3, 1) := by decide +kernel
theorem dX13_isSign_5 : decode cX13_isSign 5 = .ok (.if_icmp .ne 15, 3) := by decide +kernel
theorem dX13_isSign_8 : decode cX13_isSign 8 = .ok (.aload_n 0, 1) := by decide +kernel
theorem dX13_isSign_9 : decode cX13_isSign 9 = .ok (.getfield 278, 3) := by decide +kernel
theorem dX13_isSign_12 : decode cX13_isSign 12 = .ok (.iload_n 1, 1) := by decide +kernel
theorem dX13_isSign_13 : decode cX13_isSign 13 = .ok (.if_icmp .ne 7, 3) := by decide +kernel
theorem dX13_isSign_16 : decode cX13_isSign 16 = .ok (.iconst 1, 1) := by decide +kernel
theorem dX13_isSign_17 : decode cX13_isSign 17 = .ok (.goto 4, 3) := by decide +kernel
theorem dX13_isSign_20 : decode cX13_isSign 20 = .ok (.iconst 0, 1) := by decide +kernel
theorem dX13_isSign_21 : decode cX13_isSign 21 = .ok (.ireturn, 1) := by decide +kernel
theorem dX13_isWord_0 : decode cX13_isWord 0 = .ok (.aload_n 0, 1) := by decide +kernel
theorem dX13_isWord_1 : decode cX13_isWord 1 = .ok (.getfield 281, 3) := by decide +kernel
theorem dX13_isWord_4 : decode cX13_isWord 4 = .ok (.iconst 2, 1) := by decide +kernel
theorem dX13_isWord_5 : decode cX13_isWord 5 = .ok (.if_icmp .ne 15, 3) := by decide +kernel
theorem dX13_isWord_8 : decode cX13_isWord 8 = .ok (.aload_n 0, 1) := by decide +kernel
theorem dX13_isWord_9 : decode cX13_isWord 9 = .ok (.getfield 278, 3) := by decide +kernel
theorem dX13_isWord_12 : decode cX13_isWord 12 = .ok (.iload_n 1, 1) := by decide +kernel
theorem dX13_isWord_13 : decode cX13_isWord 13 = .ok (.if_icmp .ne 7, 3) := by decide +kernel
theorem dX13_isWord_16 : decode cX13_isWord 16 = .ok (.iconst 1, 1) := by decide +kernel
theorem dX13_isWord_17 : decode cX13_isWord 17 = .ok (.goto 4, 3) := by decide +kernel
theorem dX13_isWord_20 : decode cX13_isWord 20 = .ok (.iconst 0, 1) := by decide +kernel
theorem dX13_isWord_21 : decode cX13_isWord 21 = .ok (.ireturn, 1) := by decide +kernel
theorem dX13_push_0 : decode cX13_push 0 = .ok (.aload_n 0, 1) := by decide +kernel
theorem dX13_push_1 : decode cX13_push 1 = .ok (.getfield 13, 3) := by decide +kernel
theorem dX13_push_4 : decode cX13_push 4 = .ok (.aload_n 0, 1) := by decide +kernel
theorem dX13_push_5 : decode cX13_push 5 = .ok (.getfield 295, 3) := by decide +kernel
theorem dX13_push_8 : decode cX13_push 8 = .ok (.iload_n 1, 1) := by decide +kernel
theorem dX13_push_9 : decode cX13_push 9 = .ok (.iastore, 1) := by decide +kernel
theorem dX13_push_10 : decode cX13_push 10 = .ok (.aload_n 0, 1) := by decide +kernel
theorem dX13_push_11 : decode cX13_push 11 = .ok (.dup, 1) := by decide +kernel
theorem dX13_push_12 : decode cX13_push 12 = .ok (.getfield 295, 3) := by decide +kernel
theorem dX13_push_15 : decode cX13_push 15 = .ok (.iconst 1, 1) := by decide +kernel
theorem dX13_push_16 : decode cX13_push 16 = .ok (.iadd, 1) := by decide +kernel
theorem dX13_push_17 : decode cX13_push 17 = .ok (.putfield 295, 3) := by decide +kernel
theorem dX13_push_20 : decode cX13_push 20 = .ok (.return_, 1) := by decide +kernel
theorem dX13_emits_0 : decode cX13_emits 0 = .ok (.aload_n 0, 1) := by decide +kernel
theorem dX13_emits_1 : decode cX13_emits 1 = .ok (.getfield 17, 3) := by decide +kernel
theorem dX13_emits_4 : decode cX13_emits 4 = .ok (.aload_n 0, 1) := by decide +kernel
theorem dX13_emits_5 : decode cX13_emits 5 = .ok (.getfield 298, 3) := by decide +kernel
theorem dX13_emits_8 : decode cX13_emits 8 = .ok (.iload_n 1, 1) := by decide +kernel
theorem dX13_emits_9 : decode cX13_emits 9 = .ok (.iastore, 1) := by decide +kernel
theorem dX13_emits_10 : decode cX13_emits 10 = .ok (.aload_n 0, 1) := by decide +kernel
theorem dX13_emits_11 : decode cX13_emits 11 = .ok (.getfield 20, 3) := by decide +kernel
theorem dX13_emits_14 : decode cX13_emits 14 = .ok (.aload_n 0, 1) := by decide +kernel
theorem dX13_emits_15 : decode cX13_emits 15 = .ok (.getfield 298, 3) := by decide +kernel
theorem dX13_emits_18 : decode cX13_emits 18 = .ok (.iload_n 2, 1) := by decide +kernel
theorem dX13_emits_19 : decode cX13_emits 19 = .ok (.iastore, 1) := by decide +kernel
theorem dX13_emits_20 : decode cX13_emits 20 = .ok (.aload_n 0, 1) := by decide +kernel
theorem dX13_emits_21 : decode cX13_emits 21 = .ok (.dup, 1) := by decide +kernel
theorem dX13_emits_22 : decode cX13_emits 22 = .ok (.getfield 298, 3) := by decide +kernel
theorem dX13_emits_25 : decode cX13_emits 25 = .ok (.iconst 1, 1) := by decide +kernel
theorem dX13_emits_26 : decode cX13_emits 26 = .ok (.iadd, 1) := by decide +kernel
theorem dX13_emits_27 : decode cX13_emits 27 = .ok (.putfield 298, 3) := by decide +kernel
theorem dX13_emits_30 : decode cX13_emits 30 = .ok (.return_, 1) := by decide +kernel
theorem dX13_takes_0 : decode cX13_takes 0 = .ok (.aload_n 0, 1) := by decide +kernel
theorem dX13_takes_1 : decode cX13_takes 1 = .ok (.invokevirtual 301, 3) := by decide +kernel
theorem dX13_takes_4 : decode cX13_takes 4 = .ok (.iconst 1, 1) := by decide +kernel
theorem dX13_takes_5 : decode cX13_takes 5 = .ok (.ireturn, 1) := by decide +kernel
theorem dX13_deeper_0 : decode cX13_deeper 0 = .ok (.aload_n 0, 1) := by decide +kernel
theorem dX13_deeper_1 : decode cX13_deeper 1 = .ok (.getfield 304, 3) := by decide +kernel
theorem dX13_deeper_4 : decode cX13_deeper 4 = .ok (.bipush 8, 2) := by decide +kernel
theorem dX13_deeper_6 : decode cX13_deeper 6 = .ok (.if_icmp .ne 5, 3) := by decide +kernel
theorem dX13_deeper_9 : decode cX13_deeper 9 = .ok (.iconst 0, 1) := by decide +kernel
theorem dX13_deeper_10 : decode cX13_deeper 10 = .ok (.ireturn, 1) := by decide +kernel
theorem dX13_deeper_11 : decode cX13_deeper 11 = .ok (.aload_n 0, 1) := by decide +kernel
theorem dX13_deeper_12 : decode cX13_deeper 12 = .ok (.dup, 1) := by decide +kernel
theorem dX13_deeper_13 : decode cX13_deeper 13 = .ok (.getfield 304, 3) := by decide +kernel
theorem dX13_deeper_16 : decode cX13_deeper 16 = .ok (.iconst 1, 1) := by decide +kernel
theorem dX13_deeper_17 : decode cX13_deeper 17 = .ok (.iadd, 1) := by decide +kernel
theorem dX13_deeper_18 : decode cX13_deeper 18 = .ok (.putfield 304, 3) := by decide +kernel
theorem dX13_deeper_21 : decode cX13_deeper 21 = .ok (.aload_n 0, 1) := by decide +kernel
theorem dX13_deeper_22 : decode cX13_deeper 22 = .ok (.bipush 12, 2) := by decide +kernel
theorem dX13_deeper_24 : decode cX13_deeper 24 = .ok (.invokevirtual 307, 3) := by decide +kernel
theorem dX13_deeper_27 : decode cX13_deeper 27 = .ok (.iconst 1, 1) := by decide +kernel
theorem dX13_deeper_28 : decode cX13_deeper 28 = .ok (.ireturn, 1) := by decide +kernel
theorem dX13_steps_0 : decode cX13_steps 0 = .ok (.iload_n 1, 1) := by decide +kernel
theorem dX13_steps_1 : decode cX13_steps 1 = .ok (.sipush 1000, 3) := by decide +kernel
theorem dX13_steps_4 : decode cX13_steps 4 = .ok (.if_icmp .lt 15, 3) := by decide +kernel
theorem dX13_steps_7 : decode cX13_steps 7 = .ok (.aload_n 0, 1) := by decide +kernel
theorem dX13_steps_8 : decode cX13_steps 8 = .ok (.iload_n 1, 1) := by decide +kernel
theorem dX13_steps_9 : decode cX13_steps 9 = .ok (.sipush 1000, 3) := by decide +kernel
theorem dX13_steps_12 : decode cX13_steps 12 = .ok (.isub, 1) := by decide +kernel
theorem dX13_steps_13 : decode cX13_steps 13 = .ok (.iconst 0, 1) := by decide +kernel
theorem dX13_steps_14 : decode cX13_steps 14 = .ok (.invokevirtual 311, 3) := by decide +kernel
theorem dX13_steps_17 : decode cX13_steps 17 = .ok (.iconst 1, 1) := by decide +kernel
theorem dX13_steps_18 : decode cX13_steps 18 = .ok (.ireturn, 1) := by decide +kernel
theorem dX13_steps_19 : decode cX13_steps 19 = .ok (.iload_n 1, 1) := by decide +kernel
theorem dX13_steps_20 : decode cX13_steps 20 = .ok (.bipush 100, 2) := by decide +kernel
theorem dX13_steps_22 : decode cX13_steps 22 = .ok (.if_icmp .lt 27, 3) := by decide +kernel
theorem dX13_steps_25 : decode cX13_steps 25 = .ok (.aload_n 0, 1) := by decide +kernel
theorem dX13_steps_26 : decode cX13_steps 26 = .ok (.iload_n 1, 1) := by decide +kernel
theorem dX13_steps_27 : decode cX13_steps 27 = .ok (.bipush 100, 2) := by decide +kernel
theorem dX13_steps_29 : decode cX13_steps 29 = .ok (.isub, 1) := by decide +kernel
theorem dX13_steps_30 : decode cX13_steps 30 = .ok (.invokevirtual 315, 3) := by decide +kernel
theorem dX13_steps_33 : decode cX13_steps 33 = .ok (.ifCond .eq 14, 3) := by decide +kernel
theorem dX13_steps_36 : decode cX13_steps 36 = .ok (.aload_n 0, 1) := by decide +kernel
theorem dX13_steps_37 : decode cX13_steps 37 = .ok (.invokevirtual 318, 3) := by decide +kernel
theorem dX13_steps_40 : decode cX13_steps 40 = .ok (.ifCond .eq 7, 3) := by decide +kernel
theorem dX13_steps_43 : decode cX13_steps 43 = .ok (.iconst 1, 1) := by decide +kernel
theorem dX13_steps_44 : decode cX13_steps 44 = .ok (.goto 4, 3) := by decide +kernel
theorem dX13_steps_47 : decode cX13_steps 47 = .ok (.iconst 0, 1) := by decide +kernel
theorem dX13_steps_48 : decode cX13_steps 48 = .ok (.ireturn, 1) := by decide +kernel
theorem dX13_steps_49 : decode cX13_steps 49 = .ok (.iload_n 1, 1) := by decide +kernel
theorem dX13_steps_50 : decode cX13_steps 50 = .ok (.tableswitch 182 0 12 #[66, 71, 78, 91, 98, 111, 116, 125, 138, 147, 160, 165, 170], 66) := by decide +kernel
theorem dX13_steps_116 : decode cX13_steps 116 = .ok (.aload_n 0, 1) := by decide +kernel
theorem dX13_steps_117 : decode cX13_steps 117 = .ok (.invokevirtual 322, 3) := by decide +kernel
theorem dX13_steps_120 : decode cX13_steps 120 = .ok (.ireturn, 1) := by decide +kernel
theorem dX13_steps_121 : decode cX13_steps 121 = .ok (.aload_n 0, 1) := by decide +kernel
theorem dX13_steps_122 : decode cX13_steps 122 = .ok (.iconst 2, 1) := by decide +kernel
theorem dX13_steps_123 : decode cX13_steps 123 = .ok (.iconst 3, 1) := by decide +kernel
theorem dX13_steps_124 : decode cX13_steps 124 = .ok (.invokevirtual 325, 3) := by decide +kernel
theorem dX13_steps_127 : decode cX13_steps 127 = .ok (.ireturn, 1) := by decide +kernel
theorem dX13_steps_128 : decode cX13_steps 128 = .ok (.aload_n 0, 1) := by decide +kernel
theorem dX13_steps_129 : decode cX13_steps 129 = .ok (.bipush 43, 2) := by decide +kernel
theorem dX13_steps_131 : decode cX13_steps 131 = .ok (.iconst 2, 1) := by decide +kernel
theorem dX13_steps_132 : decode cX13_steps 132 = .ok (.bipush 45, 2) := by decide +kernel
theorem dX13_steps_134 : decode cX13_steps 134 = .ok (.iconst 3, 1) := by decide +kernel
theorem dX13_steps_135 : decode cX13_steps 135 = .ok (.iconst 2, 1) := by decide +kernel
theorem dX13_steps_136 : decode cX13_steps 136 = .ok (.iconst 3, 1) := by decide +kernel
theorem dX13_steps_137 : decode cX13_steps 137 = .ok (.invokevirtual 329, 3) := by decide +kernel
theorem dX13_steps_140 : decode cX13_steps 140 = .ok (.ireturn, 1) := by decide +kernel
theorem dX13_steps_141 : decode cX13_steps 141 = .ok (.aload_n 0, 1) := by decide +kernel
theorem dX13_steps_142 : decode cX13_steps 142 = .ok (.iconst 4, 1) := by decide +kernel
theorem dX13_steps_143 : decode cX13_steps 143 = .ok (.iconst 5, 1) := by decide +kernel
theorem dX13_steps_144 : decode cX13_steps 144 = .ok (.invokevirtual 325, 3) := by decide +kernel
theorem dX13_steps_147 : decode cX13_steps 147 = .ok (.ireturn, 1) := by decide +kernel
theorem dX13_steps_148 : decode cX13_steps 148 = .ok (.aload_n 0, 1) := by decide +kernel
theorem dX13_steps_149 : decode cX13_steps 149 = .ok (.bipush 42, 2) := by decide +kernel
theorem dX13_steps_151 : decode cX13_steps 151 = .ok (.iconst 4, 1) := by decide +kernel
theorem dX13_steps_152 : decode cX13_steps 152 = .ok (.bipush 47, 2) := by decide +kernel
theorem dX13_steps_154 : decode cX13_steps 154 = .ok (.iconst 5, 1) := by decide +kernel
theorem dX13_steps_155 : decode cX13_steps 155 = .ok (.iconst 4, 1) := by decide +kernel
theorem dX13_steps_156 : decode cX13_steps 156 = .ok (.iconst 5, 1) := by decide +kernel
theorem dX13_steps_157 : decode cX13_steps 157 = .ok (.invokevirtual 329, 3) := by decide +kernel
theorem dX13_steps_160 : decode cX13_steps 160 = .ok (.ireturn, 1) := by decide +kernel
theorem dX13_steps_161 : decode cX13_steps 161 = .ok (.aload_n 0, 1) := by decide +kernel
theorem dX13_steps_162 : decode cX13_steps 162 = .ok (.invokevirtual 333, 3) := by decide +kernel
theorem dX13_steps_165 : decode cX13_steps 165 = .ok (.ireturn, 1) := by decide +kernel
theorem dX13_steps_166 : decode cX13_steps 166 = .ok (.aload_n 0, 1) := by decide +kernel
theorem dX13_steps_167 : decode cX13_steps 167 = .ok (.bipush 7, 2) := by decide +kernel
theorem dX13_steps_169 : decode cX13_steps 169 = .ok (.bipush 8, 2) := by decide +kernel
theorem dX13_steps_171 : decode cX13_steps 171 = .ok (.invokevirtual 325, 3) := by decide +kernel
theorem dX13_steps_174 : decode cX13_steps 174 = .ok (.ireturn, 1) := by decide +kernel
theorem dX13_steps_175 : decode cX13_steps 175 = .ok (.aload_n 0, 1) := by decide +kernel
theorem dX13_steps_176 : decode cX13_steps 176 = .ok (.bipush 25, 2) := by decide +kernel
theorem dX13_steps_178 : decode cX13_steps 178 = .ok (.bipush 10, 2) := by decide +kernel
theorem dX13_steps_180 : decode cX13_steps 180 = .ok (.bipush 7, 2) := by decide +kernel
theorem dX13_steps_182 : decode cX13_steps 182 = .ok (.bipush 8, 2) := by decide +kernel
theorem dX13_steps_184 : decode cX13_steps 184 = .ok (.invokevirtual 336, 3) := by decide +kernel
theorem dX13_steps_187 : decode cX13_steps 187 = .ok (.ireturn, 1) := by decide +kernel
theorem dX13_steps_188 : decode cX13_steps 188 = .ok (.aload_n 0, 1) := by decide +kernel
theorem dX13_steps_189 : decode cX13_steps 189 = .ok (.bipush 9, 2) := by decide +kernel
theorem dX13_steps_191 : decode cX13_steps 191 = .ok (.bipush 10, 2) := by decide +kernel
theorem dX13_steps_193 : decode cX13_steps 193 = .ok (.invokevirtual 325, 3) := by decide +kernel
theorem dX13_steps_196 : decode cX13_steps 196 = .ok (.ireturn, 1) := by decide +kernel
theorem dX13_steps_197 : decode cX13_steps 197 = .ok (.aload_n 0, 1) := by decide +kernel
theorem dX13_steps_198 : decode cX13_steps 198 = .ok (.bipush 26, 2) := by decide +kernel
theorem dX13_steps_200 : decode cX13_steps 200 = .ok (.bipush 9, 2) := by decide +kernel
theorem dX13_steps_202 : decode cX13_steps 202 = .ok (.bipush 9, 2) := by decide +kernel
theorem dX13_steps_204 : decode cX13_steps 204 = .ok (.bipush 10, 2) := by decide +kernel
theorem dX13_steps_206 : decode cX13_steps 206 = .ok (.invokevirtual 336, 3) := by decide +kernel
theorem dX13_steps_209 : decode cX13_steps 209 = .ok (.ireturn, 1) := by decide +kernel
theorem dX13_steps_210 : decode cX13_steps 210 = .ok (.aload_n 0, 1) := by decide +kernel
theorem dX13_steps_211 : decode cX13_steps 211 = .ok (.invokevirtual 340, 3) := by decide +kernel
theorem dX13_steps_214 : decode cX13_steps 214 = .ok (.ireturn, 1) := by decide +kernel
theorem dX13_steps_215 : decode cX13_steps 215 = .ok (.aload_n 0, 1) := by decide +kernel
theorem dX13_steps_216 : decode cX13_steps 216 = .ok (.invokevirtual 343, 3) := by decide +kernel
theorem dX13_steps_219 : decode cX13_steps 219 = .ok (.ireturn, 1) := by decide +kernel
theorem dX13_steps_220 : decode cX13_steps 220 = .ok (.aload_n 0, 1) := by decide +kernel
theorem dX13_steps_221 : decode cX13_steps 221 = .ok (.dup, 1) := by decide +kernel
theorem dX13_steps_222 : decode cX13_steps 222 = .ok (.getfield 304, 3) := by decide +kernel
theorem dX13_steps_225 : decode cX13_steps 225 = .ok (.iconst 1, 1) := by decide +kernel
theorem dX13_steps_226 : decode cX13_steps 226 = .ok (.isub, 1) := by decide +kernel
theorem dX13_steps_227 : decode cX13_steps 227 = .ok (.putfield 304, 3) := by decide +kernel
theorem dX13_steps_230 : decode cX13_steps 230 = .ok (.iconst 1, 1) := by decide +kernel
theorem dX13_steps_231 : decode cX13_steps 231 = .ok (.ireturn, 1) := by decide +kernel
theorem dX13_steps_232 : decode cX13_steps 232 = .ok (.aload_n 0, 1) := by decide +kernel
theorem dX13_steps_233 : decode cX13_steps 233 = .ok (.getfield 26, 3) := by decide +kernel
theorem dX13_steps_236 : decode cX13_steps 236 = .ok (.aload_n 0, 1) := by decide +kernel
theorem dX13_steps_237 : decode cX13_steps 237 = .ok (.getfield 346, 3) := by decide +kernel
theorem dX13_steps_240 : decode cX13_steps 240 = .ok (.aload_n 0, 1) := by decide +kernel
theorem dX13_steps_241 : decode cX13_steps 241 = .ok (.getfield 298, 3) := by decide +kernel
theorem dX13_steps_244 : decode cX13_steps 244 = .ok (.iastore, 1) := by decide +kernel
theorem dX13_steps_245 : decode cX13_steps 245 = .ok (.iconst 1, 1) := by decide +kernel
theorem dX13_steps_246 : decode cX13_steps 246 = .ok (.ireturn, 1) := by decide +kernel
theorem dX13_both_0 : decode cX13_both 0 = .ok (.aload_n 0, 1) := by decide +kernel
theorem dX13_both_1 : decode cX13_both 1 = .ok (.iload_n 1, 1) := by decide +kernel
theorem dX13_both_2 : decode cX13_both 2 = .ok (.invokevirtual 307, 3) := by decide +kernel
theorem dX13_both_5 : decode cX13_both 5 = .ok (.aload_n 0, 1) := by decide +kernel
theorem dX13_both_6 : decode cX13_both 6 = .ok (.iload_n 2, 1) := by decide +kernel
theorem dX13_both_7 : decode cX13_both 7 = .ok (.invokevirtual 307, 3) := by decide +kernel
theorem dX13_both_10 : decode cX13_both 10 = .ok (.iconst 1, 1) := by decide +kernel
theorem dX13_both_11 : decode cX13_both 11 = .ok (.ireturn, 1) := by decide +kernel
theorem dX13_more_0 : decode cX13_more 0 = .ok (.aload_n 0, 1) := by decide +kernel
theorem dX13_more_1 : decode cX13_more 1 = .ok (.iload_n 1, 1) := by decide +kernel
theorem dX13_more_2 : decode cX13_more 2 = .ok (.invokevirtual 315, 3) := by decide +kernel
theorem dX13_more_5 : decode cX13_more 5 = .ok (.istore 7, 2) := by decide +kernel
theorem dX13_more_7 : decode cX13_more 7 = .ok (.iload 7, 2) := by decide +kernel
theorem dX13_more_9 : decode cX13_more 9 = .ok (.ifCond .ne 13, 3) := by decide +kernel
theorem dX13_more_12 : decode cX13_more 12 = .ok (.aload_n 0, 1) := by decide +kernel
theorem dX13_more_13 : decode cX13_more 13 = .ok (.iload_n 3, 1) := by decide +kernel
theorem dX13_more_14 : decode cX13_more 14 = .ok (.invokevirtual 315, 3) := by decide +kernel
theorem dX13_more_17 : decode cX13_more 17 = .ok (.ifCond .ne 5, 3) := by decide +kernel
theorem dX13_more_20 : decode cX13_more 20 = .ok (.iconst 1, 1) := by decide +kernel
theorem dX13_more_21 : decode cX13_more 21 = .ok (.ireturn, 1) := by decide +kernel
theorem dX13_more_22 : decode cX13_more 22 = .ok (.aload_n 0, 1) := by decide +kernel
theorem dX13_more_23 : decode cX13_more 23 = .ok (.invokevirtual 301, 3) := by decide +kernel
theorem dX13_more_26 : decode cX13_more 26 = .ok (.aload_n 0, 1) := by decide +kernel
theorem dX13_more_27 : decode cX13_more 27 = .ok (.iload 5, 2) := by decide +kernel
theorem dX13_more_29 : decode cX13_more 29 = .ok (.invokevirtual 307, 3) := by decide +kernel
theorem dX13_more_32 : decode cX13_more 32 = .ok (.aload_n 0, 1) := by decide +kernel
theorem dX13_more_33 : decode cX13_more 33 = .ok (.sipush 1000, 3) := by decide +kernel
theorem dX13_more_36 : decode cX13_more 36 = .ok (.iload 7, 2) := by decide +kernel
theorem dX13_more_38 : decode cX13_more 38 = .ok (.ifCond .eq 7, 3) := by decide +kernel
theorem dX13_more_41 : decode cX13_more 41 = .ok (.iload_n 2, 1) := by decide +kernel
theorem dX13_more_42 : decode cX13_more 42 = .ok (.goto 5, 3) := by decide +kernel
theorem dX13_more_45 : decode cX13_more 45 = .ok (.iload 4, 2) := by decide +kernel
theorem dX13_more_47 : decode cX13_more 47 = .ok (.iadd, 1) := by decide +kernel
theorem dX13_more_48 : decode cX13_more 48 = .ok (.invokevirtual 307, 3) := by decide +kernel
theorem dX13_more_51 : decode cX13_more 51 = .ok (.aload_n 0, 1) := by decide +kernel
theorem dX13_more_52 : decode cX13_more 52 = .ok (.iload 6, 2) := by decide +kernel
theorem dX13_more_54 : decode cX13_more 54 = .ok (.invokevirtual 307, 3) := by decide +kernel
theorem dX13_more_57 : decode cX13_more 57 = .ok (.iconst 1, 1) := by decide +kernel
theorem dX13_more_58 : decode cX13_more 58 = .ok (.ireturn, 1) := by decide +kernel
theorem dX13_moreWords_0 : decode cX13_moreWords 0 = .ok (.aload_n 0, 1) := by decide +kernel
theorem dX13_moreWords_1 : decode cX13_moreWords 1 = .ok (.iload_n 1, 1) := by decide +kernel
theorem dX13_moreWords_2 : decode cX13_moreWords 2 = .ok (.invokevirtual 349, 3) := by decide +kernel
theorem dX13_moreWords_5 : decode cX13_moreWords 5 = .ok (.ifCond .ne 5, 3) := by decide +kernel
theorem dX13_moreWords_8 : decode cX13_moreWords 8 = .ok (.iconst 1, 1) := by decide +kernel
theorem dX13_moreWords_9 : decode cX13_moreWords 9 = .ok (.ireturn, 1) := by decide +kernel
theorem dX13_moreWords_10 : decode cX13_moreWords 10 = .ok (.aload_n 0, 1) := by decide +kernel
theorem dX13_moreWords_11 : decode cX13_moreWords 11 = .ok (.invokevirtual 301, 3) := by decide +kernel
theorem dX13_moreWords_14 : decode cX13_moreWords 14 = .ok (.aload_n 0, 1) := by decide +kernel
theorem dX13_moreWords_15 : decode cX13_moreWords 15 = .ok (.iload_n 3, 1) := by decide +kernel
theorem dX13_moreWords_16 : decode cX13_moreWords 16 = .ok (.invokevirtual 307, 3) := by decide +kernel
theorem dX13_moreWords_19 : decode cX13_moreWords 19 = .ok (.aload_n 0, 1) := by decide +kernel
theorem dX13_moreWords_20 : decode cX13_moreWords 20 = .ok (.sipush 1000, 3) := by decide +kernel
theorem dX13_moreWords_23 : decode cX13_moreWords 23 = .ok (.iload_n 2, 1) := by decide +kernel
theorem dX13_moreWords_24 : decode cX13_moreWords 24 = .ok (.iadd, 1) := by decide +kernel
theorem dX13_moreWords_25 : decode cX13_moreWords 25 = .ok (.invokevirtual 307, 3) := by decide +kernel
theorem dX13_moreWords_28 : decode cX13_moreWords 28 = .ok (.aload_n 0, 1) := by decide +kernel
theorem dX13_moreWords_29 : decode cX13_moreWords 29 = .ok (.iload 4, 2) := by decide +kernel
theorem dX13_moreWords_31 : decode cX13_moreWords 31 = .ok (.invokevirtual 307, 3) := by decide +kernel
theorem dX13_moreWords_34 : decode cX13_moreWords 34 = .ok (.iconst 1, 1) := by decide +kernel
theorem dX13_moreWords_35 : decode cX13_moreWords 35 = .ok (.ireturn, 1) := by decide +kernel
theorem dX13_clauses_0 : decode cX13_clauses 0 = .ok (.aload_n 0, 1) := by decide +kernel
theorem dX13_clauses_1 : decode cX13_clauses 1 = .ok (.getfield 281, 3) := by decide +kernel
theorem dX13_clauses_4 : decode cX13_clauses 4 = .ok (.ifCond .ne 5, 3) := by decide +kernel
theorem dX13_clauses_7 : decode cX13_clauses 7 = .ok (.iconst 1, 1) := by decide +kernel
theorem dX13_clauses_8 : decode cX13_clauses 8 = .ok (.ireturn, 1) := by decide +kernel
theorem dX13_clauses_9 : decode cX13_clauses 9 = .ok (.aload_n 0, 1) := by decide +kernel
theorem dX13_clauses_10 : decode cX13_clauses 10 = .ok (.getfield 281, 3) := by decide +kernel
theorem dX13_clauses_13 : decode cX13_clauses 13 = .ok (.iconst 2, 1) := by decide +kernel
theorem dX13_clauses_14 : decode cX13_clauses 14 = .ok (.if_icmp .ne 16, 3) := by decide +kernel
theorem dX13_clauses_17 : decode cX13_clauses 17 = .ok (.aload_n 0, 1) := by decide +kernel
theorem dX13_clauses_18 : decode cX13_clauses 18 = .ok (.getfield 278, 3) := by decide +kernel
theorem dX13_clauses_21 : decode cX13_clauses 21 = .ok (.iconst 0, 1) := by decide +kernel
theorem dX13_clauses_22 : decode cX13_clauses 22 = .ok (.bipush 8, 2) := by decide +kernel
theorem dX13_clauses_24 : decode cX13_clauses 24 = .ok (.invokestatic 256, 3) := by decide +kernel
theorem dX13_clauses_27 : decode cX13_clauses 27 = .ok (.ifCond .ne 5, 3) := by decide +kernel
theorem dX13_clauses_30 : decode cX13_clauses 30 = .ok (.iconst 0, 1) := by decide +kernel
theorem dX13_clauses_31 : decode cX13_clauses 31 = .ok (.ireturn, 1) := by decide +kernel
theorem dX13_clauses_32 : decode cX13_clauses 32 = .ok (.aload_n 0, 1) := by decide +kernel
theorem dX13_clauses_33 : decode cX13_clauses 33 = .ok (.getfield 278, 3) := by decide +kernel
theorem dX13_clauses_36 : decode cX13_clauses 36 = .ok (.istore_n 1, 1) := by decide +kernel
theorem dX13_clauses_37 : decode cX13_clauses 37 = .ok (.aload_n 0, 1) := by decide +kernel
theorem dX13_clauses_38 : decode cX13_clauses 38 = .ok (.iconst 0, 1) := by decide +kernel
theorem dX13_clauses_39 : decode cX13_clauses 39 = .ok (.invokevirtual 307, 3) := by decide +kernel
theorem dX13_clauses_42 : decode cX13_clauses 42 = .ok (.aload_n 0, 1) := by decide +kernel
theorem dX13_clauses_43 : decode cX13_clauses 43 = .ok (.sipush 159, 3) := by decide +kernel
theorem dX13_clauses_46 : decode cX13_clauses 46 = .ok (.invokevirtual 307, 3) := by decide +kernel
theorem dX13_clauses_49 : decode cX13_clauses 49 = .ok (.iload_n 1, 1) := by decide +kernel
theorem dX13_clauses_50 : decode cX13_clauses 50 = .ok (.ifCond .ne 8, 3) := by decide +kernel
theorem dX13_clauses_53 : decode cX13_clauses 53 = .ok (.aload_n 0, 1) := by decide +kernel
theorem dX13_clauses_54 : decode cX13_clauses 54 = .ok (.invokevirtual 352, 3) := by decide +kernel
theorem dX13_clauses_57 : decode cX13_clauses 57 = .ok (.ireturn, 1) := by decide +kernel
theorem dX13_clauses_58 : decode cX13_clauses 58 = .ok (.iload_n 1, 1) := by decide +kernel
theorem dX13_clauses_59 : decode cX13_clauses 59 = .ok (.iconst 1, 1) := by decide +kernel
theorem dX13_clauses_60 : decode cX13_clauses 60 = .ok (.if_icmp .eq 8, 3) := by decide +kernel
theorem dX13_clauses_63 : decode cX13_clauses 63 = .ok (.iload_n 1, 1) := by decide +kernel
theorem dX13_clauses_64 : decode cX13_clauses 64 = .ok (.iconst 2, 1) := by decide +kernel
theorem dX13_clauses_65 : decode cX13_clauses 65 = .ok (.if_icmp .ne 9, 3) := by decide +kernel
theorem dX13_clauses_68 : decode cX13_clauses 68 = .ok (.aload_n 0, 1) := by decide +kernel
theorem dX13_clauses_69 : decode cX13_clauses 69 = .ok (.iload_n 1, 1) := by decide +kernel
theorem dX13_clauses_70 : decode cX13_clauses 70 = .ok (.invokevirtual 355, 3) := by decide +kernel
theorem dX13_clauses_73 : decode cX13_clauses 73 = .ok (.ireturn, 1) := by decide +kernel
theorem dX13_clauses_74 : decode cX13_clauses 74 = .ok (.iload_n 1, 1) := by decide +kernel
theorem dX13_clauses_75 : decode cX13_clauses 75 = .ok (.iconst 5, 1) := by decide +kernel
theorem dX13_clauses_76 : decode cX13_clauses 76 = .ok (.if_icmp .gt 52, 3) := by decide +kernel
theorem dX13_clauses_79 : decode cX13_clauses 79 = .ok (.aload_n 0, 1) := by decide +kernel
theorem dX13_clauses_80 : decode cX13_clauses 80 = .ok (.invokevirtual 301, 3) := by decide +kernel
theorem dX13_clauses_83 : decode cX13_clauses 83 = .ok (.aload_n 0, 1) := by decide +kernel
theorem dX13_clauses_84 : decode cX13_clauses 84 = .ok (.getfield 281, 3) := by decide +kernel
theorem dX13_clauses_87 : decode cX13_clauses 87 = .ok (.iconst 2, 1) := by decide +kernel
theorem dX13_clauses_88 : decode cX13_clauses 88 = .ok (.if_icmp .ne 17, 3) := by decide +kernel
theorem dX13_clauses_91 : decode cX13_clauses 91 = .ok (.aload_n 0, 1) := by decide +kernel
theorem dX13_clauses_92 : decode cX13_clauses 92 = .ok (.getfield 278, 3) := by decide +kernel
theorem dX13_clauses_95 : decode cX13_clauses 95 = .ok (.bipush 13, 2) := by decide +kernel
theorem dX13_clauses_97 : decode cX13_clauses 97 = .ok (.bipush 15, 2) := by decide +kernel
theorem dX13_clauses_99 : decode cX13_clauses 99 = .ok (.invokestatic 256, 3) := by decide +kernel
theorem dX13_clauses_102 : decode cX13_clauses 102 = .ok (.ifCond .ne 5, 3) := by decide +kernel
theorem dX13_clauses_105 : decode cX13_clauses 105 = .ok (.iconst 0, 1) := by decide +kernel
theorem dX13_clauses_106 : decode cX13_clauses 106 = .ok (.ireturn, 1) := by decide +kernel
theorem dX13_clauses_107 : decode cX13_clauses 107 = .ok (.aload_n 0, 1) := by decide +kernel
theorem dX13_clauses_108 : decode cX13_clauses 108 = .ok (.iconst 5, 1) := by decide +kernel
theorem dX13_clauses_109 : decode cX13_clauses 109 = .ok (.iconst 3, 1) := by decide +kernel
theorem dX13_clauses_110 : decode cX13_clauses 110 = .ok (.iload_n 1, 1) := by decide +kernel
theorem dX13_clauses_111 : decode cX13_clauses 111 = .ok (.iconst 3, 1) := by decide +kernel
theorem dX13_clauses_112 : decode cX13_clauses 112 = .ok (.isub, 1) := by decide +kernel
theorem dX13_clauses_113 : decode cX13_clauses 113 = .ok (.imul, 1) := by decide +kernel
theorem dX13_clauses_114 : decode cX13_clauses 114 = .ok (.iadd, 1) := by decide +kernel
theorem dX13_clauses_115 : decode cX13_clauses 115 = .ok (.aload_n 0, 1) := by decide +kernel
theorem dX13_clauses_116 : decode cX13_clauses 116 = .ok (.getfield 278, 3) := by decide +kernel
theorem dX13_clauses_119 : decode cX13_clauses 119 = .ok (.iadd, 1) := by decide +kernel
theorem dX13_clauses_120 : decode cX13_clauses 120 = .ok (.bipush 13, 2) := by decide +kernel
theorem dX13_clauses_122 : decode cX13_clauses 122 = .ok (.isub, 1) := by decide +kernel
theorem dX13_clauses_123 : decode cX13_clauses 123 = .ok (.iconst 1, 1) := by decide +kernel
theorem dX13_clauses_124 : decode cX13_clauses 124 = .ok (.invokevirtual 358, 3) := by decide +kernel
theorem dX13_clauses_127 : decode cX13_clauses 127 = .ok (.ireturn, 1) := by decide +kernel
theorem dX13_clauses_128 : decode cX13_clauses 128 = .ok (.aload_n 0, 1) := by decide +kernel
theorem dX13_clauses_129 : decode cX13_clauses 129 = .ok (.iload_n 1, 1) := by decide +kernel
theorem dX13_clauses_130 : decode cX13_clauses 130 = .ok (.bipush 6, 2) := by decide +kernel
theorem dX13_clauses_132 : decode cX13_clauses 132 = .ok (.if_icmp .ne 7, 3) := by decide +kernel
theorem dX13_clauses_135 : decode cX13_clauses 135 = .ok (.iconst 2, 1) := by decide +kernel
theorem dX13_clauses_136 : decode cX13_clauses 136 = .ok (.goto 14, 3) := by decide +kernel
theorem dX13_clauses_139 : decode cX13_clauses 139 = .ok (.iload_n 1, 1) := by decide +kernel
theorem dX13_clauses_140 : decode cX13_clauses 140 = .ok (.bipush 7, 2) := by decide +kernel
theorem dX13_clauses_142 : decode cX13_clauses 142 = .ok (.if_icmp .ne 7, 3) := by decide +kernel
theorem dX13_clauses_145 : decode cX13_clauses 145 = .ok (.iconst 3, 1) := by decide +kernel
theorem dX13_clauses_146 : decode cX13_clauses 146 = .ok (.goto 4, 3) := by decide +kernel
theorem dX13_clauses_149 : decode cX13_clauses 149 = .ok (.iconst 4, 1) := by decide +kernel
theorem dX13_clauses_150 : decode cX13_clauses 150 = .ok (.iload_n 1, 1) := by decide +kernel
theorem dX13_clauses_151 : decode cX13_clauses 151 = .ok (.bipush 8, 2) := by decide +kernel
theorem dX13_clauses_153 : decode cX13_clauses 153 = .ok (.if_icmp .ne 7, 3) := by decide +kernel
theorem dX13_clauses_156 : decode cX13_clauses 156 = .ok (.iconst 1, 1) := by decide +kernel
theorem dX13_clauses_157 : decode cX13_clauses 157 = .ok (.goto 5, 3) := by decide +kernel
theorem dX13_clauses_160 : decode cX13_clauses 160 = .ok (.bipush 6, 2) := by decide +kernel
theorem dX13_clauses_162 : decode cX13_clauses 162 = .ok (.invokevirtual 358, 3) := by decide +kernel
theorem dX13_clauses_165 : decode cX13_clauses 165 = .ok (.ireturn, 1) := by decide +kernel
theorem dX13_begins_0 : decode cX13_begins 0 = .ok (.aload_n 0, 1) := by decide +kernel
theorem dX13_begins_1 : decode cX13_begins 1 = .ok (.getfield 23, 3) := by decide +kernel
theorem dX13_begins_4 : decode cX13_begins 4 = .ok (.iload_n 1, 1) := by decide +kernel
theorem dX13_begins_5 : decode cX13_begins 5 = .ok (.iaload, 1) := by decide +kernel
theorem dX13_begins_6 : decode cX13_begins 6 = .ok (.iconst (-1), 1) := by decide +kernel
theorem dX13_begins_7 : decode cX13_begins 7 = .ok (.if_icmp .eq 5, 3) := by decide +kernel
theorem dX13_begins_10 : decode cX13_begins 10 = .ok (.iconst 0, 1) := by decide +kernel
theorem dX13_begins_11 : decode cX13_begins 11 = .ok (.ireturn, 1) := by decide +kernel
theorem dX13_begins_12 : decode cX13_begins 12 = .ok (.aload_n 0, 1) := by decide +kernel
theorem dX13_begins_13 : decode cX13_begins 13 = .ok (.iload_n 1, 1) := by decide +kernel
theorem dX13_begins_14 : decode cX13_begins 14 = .ok (.putfield 346, 3) := by decide +kernel
theorem dX13_begins_17 : decode cX13_begins 17 = .ok (.aload_n 0, 1) := by decide +kernel
theorem dX13_begins_18 : decode cX13_begins 18 = .ok (.getfield 23, 3) := by decide +kernel
theorem dX13_begins_21 : decode cX13_begins 21 = .ok (.iload_n 1, 1) := by decide +kernel
theorem dX13_begins_22 : decode cX13_begins 22 = .ok (.aload_n 0, 1) := by decide +kernel
theorem dX13_begins_23 : decode cX13_begins 23 = .ok (.getfield 298, 3) := by decide +kernel
theorem dX13_begins_26 : decode cX13_begins 26 = .ok (.iastore, 1) := by decide +kernel
theorem dX13_begins_27 : decode cX13_begins 27 = .ok (.aload_n 0, 1) := by decide +kernel
theorem dX13_begins_28 : decode cX13_begins 28 = .ok (.bipush 13, 2) := by decide +kernel
theorem dX13_begins_30 : decode cX13_begins 30 = .ok (.invokevirtual 307, 3) := by decide +kernel
theorem dX13_begins_33 : decode cX13_begins 33 = .ok (.aload_n 0, 1) := by decide +kernel
theorem dX13_begins_34 : decode cX13_begins 34 = .ok (.iload_n 2, 1) := by decide +kernel
theorem dX13_begins_35 : decode cX13_begins 35 = .ok (.invokevirtual 307, 3) := by decide +kernel
theorem dX13_begins_38 : decode cX13_begins 38 = .ok (.aload_n 0, 1) := by decide +kernel
theorem dX13_begins_39 : decode cX13_begins 39 = .ok (.invokevirtual 318, 3) := by decide +kernel
theorem dX13_begins_42 : decode cX13_begins 42 = .ok (.ireturn, 1) := by decide +kernel
theorem dX13_skip_0 : decode cX13_skip 0 = .ok (.aload_n 0, 1) := by decide +kernel
theorem dX13_skip_1 : decode cX13_skip 1 = .ok (.invokevirtual 301, 3) := by decide +kernel
theorem dX13_skip_4 : decode cX13_skip 4 = .ok (.aload_n 0, 1) := by decide +kernel
theorem dX13_skip_5 : decode cX13_skip 5 = .ok (.getfield 281, 3) := by decide +kernel
theorem dX13_skip_8 : decode cX13_skip 8 = .ok (.iconst 2, 1) := by decide +kernel
theorem dX13_skip_9 : decode cX13_skip 9 = .ok (.if_icmp .ne 25, 3) := by decide +kernel
theorem dX13_skip_12 : decode cX13_skip 12 = .ok (.aload_n 0, 1) := by decide +kernel
theorem dX13_skip_13 : decode cX13_skip 13 = .ok (.getfield 272, 3) := by decide +kernel
theorem dX13_skip_16 : decode cX13_skip 16 = .ok (.aload_n 0, 1) := by decide +kernel
theorem dX13_skip_17 : decode cX13_skip 17 = .ok (.getfield 275, 3) := by decide +kernel
theorem dX13_skip_20 : decode cX13_skip 20 = .ok (.isub, 1) := by decide +kernel
theorem dX13_skip_21 : decode cX13_skip 21 = .ok (.bipush 8, 2) := by decide +kernel
theorem dX13_skip_23 : decode cX13_skip 23 = .ok (.if_icmp .gt 11, 3) := by decide +kernel
theorem dX13_skip_26 : decode cX13_skip 26 = .ok (.aload_n 0, 1) := by decide +kernel
theorem dX13_skip_27 : decode cX13_skip 27 = .ok (.getfield 361, 3) := by decide +kernel
theorem dX13_skip_30 : decode cX13_skip 30 = .ok (.iconst 4, 1) := by decide +kernel
theorem dX13_skip_31 : decode cX13_skip 31 = .ok (.if_icmp .ne 5, 3) := by decide +kernel
theorem dX13_skip_34 : decode cX13_skip 34 = .ok (.iconst 0, 1) := by decide +kernel
theorem dX13_skip_35 : decode cX13_skip 35 = .ok (.ireturn, 1) := by decide +kernel
theorem dX13_skip_36 : decode cX13_skip 36 = .ok (.aload_n 0, 1) := by decide +kernel
theorem dX13_skip_37 : decode cX13_skip 37 = .ok (.getfield 29, 3) := by decide +kernel
theorem dX13_skip_40 : decode cX13_skip 40 = .ok (.aload_n 0, 1) := by decide +kernel
theorem dX13_skip_41 : decode cX13_skip 41 = .ok (.getfield 361, 3) := by decide +kernel
theorem dX13_skip_44 : decode cX13_skip 44 = .ok (.aload_n 0, 1) := by decide +kernel
theorem dX13_skip_45 : decode cX13_skip 45 = .ok (.getfield 275, 3) := by decide +kernel
theorem dX13_skip_48 : decode cX13_skip 48 = .ok (.iastore, 1) := by decide +kernel
theorem dX13_skip_49 : decode cX13_skip 49 = .ok (.aload_n 0, 1) := by decide +kernel
theorem dX13_skip_50 : decode cX13_skip 50 = .ok (.getfield 32, 3) := by decide +kernel
theorem dX13_skip_53 : decode cX13_skip 53 = .ok (.aload_n 0, 1) := by decide +kernel
theorem dX13_skip_54 : decode cX13_skip 54 = .ok (.getfield 361, 3) := by decide +kernel
theorem dX13_skip_57 : decode cX13_skip 57 = .ok (.aload_n 0, 1) := by decide +kernel
theorem dX13_skip_58 : decode cX13_skip 58 = .ok (.getfield 272, 3) := by decide +kernel
theorem dX13_skip_61 : decode cX13_skip 61 = .ok (.aload_n 0, 1) := by decide +kernel
theorem dX13_skip_62 : decode cX13_skip 62 = .ok (.getfield 275, 3) := by decide +kernel
theorem dX13_skip_65 : decode cX13_skip 65 = .ok (.isub, 1) := by decide +kernel
theorem dX13_skip_66 : decode cX13_skip 66 = .ok (.iastore, 1) := by decide +kernel
theorem dX13_skip_67 : decode cX13_skip 67 = .ok (.aload_n 0, 1) := by decide +kernel
theorem dX13_skip_68 : decode cX13_skip 68 = .ok (.dup, 1) := by decide +kernel
theorem dX13_skip_69 : decode cX13_skip 69 = .ok (.getfield 361, 3) := by decide +kernel
theorem dX13_skip_72 : decode cX13_skip 72 = .ok (.iconst 1, 1) := by decide +kernel
theorem dX13_skip_73 : decode cX13_skip 73 = .ok (.iadd, 1) := by decide +kernel
theorem dX13_skip_74 : decode cX13_skip 74 = .ok (.putfield 361, 3) := by decide +kernel
theorem dX13_skip_77 : decode cX13_skip 77 = .ok (.aload_n 0, 1) := by decide +kernel
theorem dX13_skip_78 : decode cX13_skip 78 = .ok (.invokevirtual 318, 3) := by decide +kernel
theorem dX13_skip_81 : decode cX13_skip 81 = .ok (.ireturn, 1) := by decide +kernel
theorem dX13_choice_0 : decode cX13_choice 0 = .ok (.iload_n 1, 1) := by decide +kernel
theorem dX13_choice_1 : decode cX13_choice 1 = .ok (.iconst 1, 1) := by decide +kernel
theorem dX13_choice_2 : decode cX13_choice 2 = .ok (.if_icmp .ne 7, 3) := by decide +kernel
theorem dX13_choice_5 : decode cX13_choice 5 = .ok (.iconst 0, 1) := by decide +kernel
theorem dX13_choice_6 : decode cX13_choice 6 = .ok (.goto 4, 3) := by decide +kernel
theorem dX13_choice_9 : decode cX13_choice 9 = .ok (.iconst 1, 1) := by decide +kernel
theorem dX13_choice_10 : decode cX13_choice 10 = .ok (.istore_n 2, 1) := by decide +kernel
theorem dX13_choice_11 : decode cX13_choice 11 = .ok (.aload_n 0, 1) := by decide +kernel
theorem dX13_choice_12 : decode cX13_choice 12 = .ok (.getfield 23, 3) := by decide +kernel
theorem dX13_choice_15 : decode cX13_choice 15 = .ok (.iload_n 2, 1) := by decide +kernel
theorem dX13_choice_16 : decode cX13_choice 16 = .ok (.iaload, 1) := by decide +kernel
theorem dX13_choice_17 : decode cX13_choice 17 = .ok (.iconst (-1), 1) := by decide +kernel
theorem dX13_choice_18 : decode cX13_choice 18 = .ok (.if_icmp .eq 5, 3) := by decide +kernel
theorem dX13_choice_21 : decode cX13_choice 21 = .ok (.iconst 0, 1) := by decide +kernel
theorem dX13_choice_22 : decode cX13_choice 22 = .ok (.ireturn, 1) := by decide +kernel
theorem dX13_choice_23 : decode cX13_choice 23 = .ok (.aload_n 0, 1) := by decide +kernel
theorem dX13_choice_24 : decode cX13_choice 24 = .ok (.invokevirtual 301, 3) := by decide +kernel
theorem dX13_choice_27 : decode cX13_choice 27 = .ok (.iload_n 1, 1) := by decide +kernel
theorem dX13_choice_28 : decode cX13_choice 28 = .ok (.iconst 1, 1) := by decide +kernel
theorem dX13_choice_29 : decode cX13_choice 29 = .ok (.if_icmp .ne 8, 3) := by decide +kernel
theorem dX13_choice_32 : decode cX13_choice 32 = .ok (.bipush 9, 2) := by decide +kernel
theorem dX13_choice_34 : decode cX13_choice 34 = .ok (.goto 5, 3) := by decide +kernel
theorem dX13_choice_37 : decode cX13_choice 37 = .ok (.bipush 11, 2) := by decide +kernel
theorem dX13_choice_39 : decode cX13_choice 39 = .ok (.istore_n 3, 1) := by decide +kernel
theorem dX13_choice_40 : decode cX13_choice 40 = .ok (.iload_n 1, 1) := by decide +kernel
theorem dX13_choice_41 : decode cX13_choice 41 = .ok (.iconst 1, 1) := by decide +kernel
theorem dX13_choice_42 : decode cX13_choice 42 = .ok (.if_icmp .ne 8, 3) := by decide +kernel
theorem dX13_choice_45 : decode cX13_choice 45 = .ok (.bipush 10, 2) := by decide +kernel
theorem dX13_choice_47 : decode cX13_choice 47 = .ok (.goto 5, 3) := by decide +kernel
theorem dX13_choice_50 : decode cX13_choice 50 = .ok (.bipush 12, 2) := by decide +kernel
theorem dX13_choice_52 : decode cX13_choice 52 = .ok (.istore 4, 2) := by decide +kernel
theorem dX13_choice_54 : decode cX13_choice 54 = .ok (.aload_n 0, 1) := by decide +kernel
theorem dX13_choice_55 : decode cX13_choice 55 = .ok (.iload_n 3, 1) := by decide +kernel
theorem dX13_choice_56 : decode cX13_choice 56 = .ok (.invokevirtual 349, 3) := by decide +kernel
theorem dX13_choice_59 : decode cX13_choice 59 = .ok (.ifCond .ne 14, 3) := by decide +kernel
theorem dX13_choice_62 : decode cX13_choice 62 = .ok (.aload_n 0, 1) := by decide +kernel
theorem dX13_choice_63 : decode cX13_choice 63 = .ok (.iload 4, 2) := by decide +kernel
theorem dX13_choice_65 : decode cX13_choice 65 = .ok (.invokevirtual 349, 3) := by decide +kernel
theorem dX13_choice_68 : decode cX13_choice 68 = .ok (.ifCond .ne 5, 3) := by decide +kernel
theorem dX13_choice_71 : decode cX13_choice 71 = .ok (.iconst 0, 1) := by decide +kernel
theorem dX13_choice_72 : decode cX13_choice 72 = .ok (.ireturn, 1) := by decide +kernel
theorem dX13_choice_73 : decode cX13_choice 73 = .ok (.aload_n 0, 1) := by decide +kernel
theorem dX13_choice_74 : decode cX13_choice 74 = .ok (.getfield 23, 3) := by decide +kernel
theorem dX13_choice_77 : decode cX13_choice 77 = .ok (.iload_n 2, 1) := by decide +kernel
theorem dX13_choice_78 : decode cX13_choice 78 = .ok (.aload_n 0, 1) := by decide +kernel
theorem dX13_choice_79 : decode cX13_choice 79 = .ok (.getfield 298, 3) := by decide +kernel
theorem dX13_choice_82 : decode cX13_choice 82 = .ok (.iastore, 1) := by decide +kernel
theorem dX13_choice_83 : decode cX13_choice 83 = .ok (.aload_n 0, 1) := by decide +kernel
theorem dX13_choice_84 : decode cX13_choice 84 = .ok (.iconst 0, 1) := by decide +kernel
theorem dX13_choice_85 : decode cX13_choice 85 = .ok (.aload_n 0, 1) := by decide +kernel
theorem dX13_choice_86 : decode cX13_choice 86 = .ok (.iload_n 3, 1) := by decide +kernel
theorem dX13_choice_87 : decode cX13_choice 87 = .ok (.invokevirtual 349, 3) := by decide +kernel
theorem dX13_choice_90 : decode cX13_choice 90 = .ok (.ifCond .eq 7, 3) := by decide +kernel
theorem dX13_choice_93 : decode cX13_choice 93 = .ok (.iconst 1, 1) := by decide +kernel
theorem dX13_choice_94 : decode cX13_choice 94 = .ok (.goto 4, 3) := by decide +kernel
theorem dX13_choice_97 : decode cX13_choice 97 = .ok (.iconst 0, 1) := by decide +kernel
theorem dX13_choice_98 : decode cX13_choice 98 = .ok (.invokevirtual 311, 3) := by decide +kernel
theorem dX13_choice_101 : decode cX13_choice 101 = .ok (.aload_n 0, 1) := by decide +kernel
theorem dX13_choice_102 : decode cX13_choice 102 = .ok (.getfield 26, 3) := by decide +kernel
theorem dX13_choice_105 : decode cX13_choice 105 = .ok (.iload_n 2, 1) := by decide +kernel
theorem dX13_choice_106 : decode cX13_choice 106 = .ok (.aload_n 0, 1) := by decide +kernel
theorem dX13_choice_107 : decode cX13_choice 107 = .ok (.getfield 298, 3) := by decide +kernel
theorem dX13_choice_110 : decode cX13_choice 110 = .ok (.iastore, 1) := by decide +kernel
theorem dX13_choice_111 : decode cX13_choice 111 = .ok (.aload_n 0, 1) := by decide +kernel
theorem dX13_choice_112 : decode cX13_choice 112 = .ok (.invokevirtual 318, 3) := by decide +kernel
theorem dX13_choice_115 : decode cX13_choice 115 = .ok (.ireturn, 1) := by decide +kernel
theorem dX13_factor_0 : decode cX13_factor 0 = .ok (.aload_n 0, 1) := by decide +kernel
theorem dX13_factor_1 : decode cX13_factor 1 = .ok (.getfield 281, 3) := by decide +kernel
theorem dX13_factor_4 : decode cX13_factor 4 = .ok (.iconst 1, 1) := by decide +kernel
theorem dX13_factor_5 : decode cX13_factor 5 = .ok (.if_icmp .ne 29, 3) := by decide +kernel
theorem dX13_factor_8 : decode cX13_factor 8 = .ok (.aload_n 0, 1) := by decide +kernel
theorem dX13_factor_9 : decode cX13_factor 9 = .ok (.getfield 278, 3) := by decide +kernel
theorem dX13_factor_12 : decode cX13_factor 12 = .ok (.ldc_w 364, 3) := by decide +kernel
theorem dX13_factor_15 : decode cX13_factor 15 = .ok (.if_icmp .le 5, 3) := by decide +kernel
theorem dX13_factor_18 : decode cX13_factor 18 = .ok (.iconst 0, 1) := by decide +kernel
theorem dX13_factor_19 : decode cX13_factor 19 = .ok (.ireturn, 1) := by decide +kernel
theorem dX13_factor_20 : decode cX13_factor 20 = .ok (.aload_n 0, 1) := by decide +kernel
theorem dX13_factor_21 : decode cX13_factor 21 = .ok (.iconst 0, 1) := by decide +kernel
theorem dX13_factor_22 : decode cX13_factor 22 = .ok (.aload_n 0, 1) := by decide +kernel
theorem dX13_factor_23 : decode cX13_factor 23 = .ok (.getfield 278, 3) := by decide +kernel
theorem dX13_factor_26 : decode cX13_factor 26 = .ok (.invokevirtual 311, 3) := by decide +kernel
theorem dX13_factor_29 : decode cX13_factor 29 = .ok (.aload_n 0, 1) := by decide +kernel
theorem dX13_factor_30 : decode cX13_factor 30 = .ok (.invokevirtual 318, 3) := by decide +kernel
theorem dX13_factor_33 : decode cX13_factor 33 = .ok (.ireturn, 1) := by decide +kernel
theorem dX13_factor_34 : decode cX13_factor 34 = .ok (.aload_n 0, 1) := by decide +kernel
theorem dX13_factor_35 : decode cX13_factor 35 = .ok (.getfield 281, 3) := by decide +kernel
theorem dX13_factor_38 : decode cX13_factor 38 = .ok (.iconst 2, 1) := by decide +kernel
theorem dX13_factor_39 : decode cX13_factor 39 = .ok (.if_icmp .ne 34, 3) := by decide +kernel
theorem dX13_factor_42 : decode cX13_factor 42 = .ok (.aload_n 0, 1) := by decide +kernel
theorem dX13_factor_43 : decode cX13_factor 43 = .ok (.getfield 278, 3) := by decide +kernel
theorem dX13_factor_46 : decode cX13_factor 46 = .ok (.bipush 16, 2) := by decide +kernel
theorem dX13_factor_48 : decode cX13_factor 48 = .ok (.bipush 24, 2) := by decide +kernel
theorem dX13_factor_50 : decode cX13_factor 50 = .ok (.invokestatic 256, 3) := by decide +kernel
theorem dX13_factor_53 : decode cX13_factor 53 = .ok (.ifCond .eq 20, 3) := by decide +kernel
theorem dX13_factor_56 : decode cX13_factor 56 = .ok (.aload_n 0, 1) := by decide +kernel
theorem dX13_factor_57 : decode cX13_factor 57 = .ok (.iconst 1, 1) := by decide +kernel
theorem dX13_factor_58 : decode cX13_factor 58 = .ok (.aload_n 0, 1) := by decide +kernel
theorem dX13_factor_59 : decode cX13_factor 59 = .ok (.getfield 278, 3) := by decide +kernel
theorem dX13_factor_62 : decode cX13_factor 62 = .ok (.bipush 16, 2) := by decide +kernel
theorem dX13_factor_64 : decode cX13_factor 64 = .ok (.isub, 1) := by decide +kernel
theorem dX13_factor_65 : decode cX13_factor 65 = .ok (.invokevirtual 311, 3) := by decide +kernel
theorem dX13_factor_68 : decode cX13_factor 68 = .ok (.aload_n 0, 1) := by decide +kernel
theorem dX13_factor_69 : decode cX13_factor 69 = .ok (.invokevirtual 318, 3) := by decide +kernel
theorem dX13_factor_72 : decode cX13_factor 72 = .ok (.ireturn, 1) := by decide +kernel
theorem dX13_factor_73 : decode cX13_factor 73 = .ok (.aload_n 0, 1) := by decide +kernel
theorem dX13_factor_74 : decode cX13_factor 74 = .ok (.bipush 40, 2) := by decide +kernel
theorem dX13_factor_76 : decode cX13_factor 76 = .ok (.invokevirtual 315, 3) := by decide +kernel
theorem dX13_factor_79 : decode cX13_factor 79 = .ok (.ifCond .eq 10, 3) := by decide +kernel
theorem dX13_factor_82 : decode cX13_factor 82 = .ok (.aload_n 0, 1) := by decide +kernel
theorem dX13_factor_83 : decode cX13_factor 83 = .ok (.invokevirtual 365, 3) := by decide +kernel
theorem dX13_factor_86 : decode cX13_factor 86 = .ok (.ifCond .ne 5, 3) := by decide +kernel
theorem dX13_factor_89 : decode cX13_factor 89 = .ok (.iconst 0, 1) := by decide +kernel
theorem dX13_factor_90 : decode cX13_factor 90 = .ok (.ireturn, 1) := by decide +kernel
theorem dX13_factor_91 : decode cX13_factor 91 = .ok (.aload_n 0, 1) := by decide +kernel
theorem dX13_factor_92 : decode cX13_factor 92 = .ok (.sipush 141, 3) := by decide +kernel
theorem dX13_factor_95 : decode cX13_factor 95 = .ok (.invokevirtual 307, 3) := by decide +kernel
theorem dX13_factor_98 : decode cX13_factor 98 = .ok (.aload_n 0, 1) := by decide +kernel
theorem dX13_factor_99 : decode cX13_factor 99 = .ok (.iconst 1, 1) := by decide +kernel
theorem dX13_factor_100 : decode cX13_factor 100 = .ok (.invokevirtual 307, 3) := by decide +kernel
theorem dX13_factor_103 : decode cX13_factor 103 = .ok (.aload_n 0, 1) := by decide +kernel
theorem dX13_factor_104 : decode cX13_factor 104 = .ok (.invokevirtual 318, 3) := by decide +kernel
theorem dX13_factor_107 : decode cX13_factor 107 = .ok (.ireturn, 1) := by decide +kernel
theorem dX13_holds_0 : decode cX13_holds 0 = .ok (.aload_n 0, 1) := by decide +kernel
theorem dX13_holds_1 : decode cX13_holds 1 = .ok (.bipush 27, 2) := by decide +kernel
theorem dX13_holds_3 : decode cX13_holds 3 = .ok (.invokevirtual 349, 3) := by decide +kernel
theorem dX13_holds_6 : decode cX13_holds 6 = .ok (.ifCond .eq 30, 3) := by decide +kernel
theorem dX13_holds_9 : decode cX13_holds 9 = .ok (.aload_n 0, 1) := by decide +kernel
theorem dX13_holds_10 : decode cX13_holds 10 = .ok (.invokevirtual 365, 3) := by decide +kernel
theorem dX13_holds_13 : decode cX13_holds 13 = .ok (.ifCond .ne 5, 3) := by decide +kernel
theorem dX13_holds_16 : decode cX13_holds 16 = .ok (.iconst 0, 1) := by decide +kernel
theorem dX13_holds_17 : decode cX13_holds 17 = .ok (.ireturn, 1) := by decide +kernel
theorem dX13_holds_18 : decode cX13_holds 18 = .ok (.aload_n 0, 1) := by decide +kernel
theorem dX13_holds_19 : decode cX13_holds 19 = .ok (.sipush 1011, 3) := by decide +kernel
theorem dX13_holds_22 : decode cX13_holds 22 = .ok (.invokevirtual 307, 3) := by decide +kernel
theorem dX13_holds_25 : decode cX13_holds 25 = .ok (.aload_n 0, 1) := by decide +kernel
theorem dX13_holds_26 : decode cX13_holds 26 = .ok (.bipush 10, 2) := by decide +kernel
theorem dX13_holds_28 : decode cX13_holds 28 = .ok (.invokevirtual 307, 3) := by decide +kernel
theorem dX13_holds_31 : decode cX13_holds 31 = .ok (.aload_n 0, 1) := by decide +kernel
theorem dX13_holds_32 : decode cX13_holds 32 = .ok (.invokevirtual 318, 3) := by decide +kernel
theorem dX13_holds_35 : decode cX13_holds 35 = .ok (.ireturn, 1) := by decide +kernel
theorem dX13_holds_36 : decode cX13_holds 36 = .ok (.aload_n 0, 1) := by decide +kernel
theorem dX13_holds_37 : decode cX13_holds 37 = .ok (.bipush 91, 2) := by decide +kernel
theorem dX13_holds_39 : decode cX13_holds 39 = .ok (.invokevirtual 315, 3) := by decide +kernel
theorem dX13_holds_42 : decode cX13_holds 42 = .ok (.ifCond .eq 30, 3) := by decide +kernel
theorem dX13_holds_45 : decode cX13_holds 45 = .ok (.aload_n 0, 1) := by decide +kernel
theorem dX13_holds_46 : decode cX13_holds 46 = .ok (.invokevirtual 365, 3) := by decide +kernel
theorem dX13_holds_49 : decode cX13_holds 49 = .ok (.ifCond .ne 5, 3) := by decide +kernel
theorem dX13_holds_52 : decode cX13_holds 52 = .ok (.iconst 0, 1) := by decide +kernel
theorem dX13_holds_53 : decode cX13_holds 53 = .ok (.ireturn, 1) := by decide +kernel
theorem dX13_holds_54 : decode cX13_holds 54 = .ok (.aload_n 0, 1) := by decide +kernel
theorem dX13_holds_55 : decode cX13_holds 55 = .ok (.sipush 193, 3) := by decide +kernel
theorem dX13_holds_58 : decode cX13_holds 58 = .ok (.invokevirtual 307, 3) := by decide +kernel
theorem dX13_holds_61 : decode cX13_holds 61 = .ok (.aload_n 0, 1) := by decide +kernel
theorem dX13_holds_62 : decode cX13_holds 62 = .ok (.bipush 6, 2) := by decide +kernel
theorem dX13_holds_64 : decode cX13_holds 64 = .ok (.invokevirtual 307, 3) := by decide +kernel
theorem dX13_holds_67 : decode cX13_holds 67 = .ok (.aload_n 0, 1) := by decide +kernel
theorem dX13_holds_68 : decode cX13_holds 68 = .ok (.invokevirtual 318, 3) := by decide +kernel
theorem dX13_holds_71 : decode cX13_holds 71 = .ok (.ireturn, 1) := by decide +kernel
theorem dX13_holds_72 : decode cX13_holds 72 = .ok (.aload_n 0, 1) := by decide +kernel
theorem dX13_holds_73 : decode cX13_holds 73 = .ok (.bipush 11, 2) := by decide +kernel
theorem dX13_holds_75 : decode cX13_holds 75 = .ok (.iconst 1, 1) := by decide +kernel
theorem dX13_holds_76 : decode cX13_holds 76 = .ok (.invokevirtual 325, 3) := by decide +kernel
theorem dX13_holds_79 : decode cX13_holds 79 = .ok (.ireturn, 1) := by decide +kernel
theorem dX13_compares_0 : decode cX13_compares 0 = .ok (.aload_n 0, 1) := by decide +kernel
theorem dX13_compares_1 : decode cX13_compares 1 = .ok (.bipush 60, 2) := by decide +kernel
theorem dX13_compares_3 : decode cX13_compares 3 = .ok (.invokevirtual 315, 3) := by decide +kernel
theorem dX13_compares_6 : decode cX13_compares 6 = .ok (.ifCond .ne 23, 3) := by decide +kernel
theorem dX13_compares_9 : decode cX13_compares 9 = .ok (.aload_n 0, 1) := by decide +kernel
theorem dX13_compares_10 : decode cX13_compares 10 = .ok (.bipush 62, 2) := by decide +kernel
theorem dX13_compares_12 : decode cX13_compares 12 = .ok (.invokevirtual 315, 3) := by decide +kernel
theorem dX13_compares_15 : decode cX13_compares 15 = .ok (.ifCond .ne 14, 3) := by decide +kernel
theorem dX13_compares_18 : decode cX13_compares 18 = .ok (.aload_n 0, 1) := by decide +kernel
theorem dX13_compares_19 : decode cX13_compares 19 = .ok (.bipush 61, 2) := by decide +kernel
theorem dX13_compares_21 : decode cX13_compares 21 = .ok (.invokevirtual 315, 3) := by decide +kernel
theorem dX13_compares_24 : decode cX13_compares 24 = .ok (.ifCond .ne 5, 3) := by decide +kernel
theorem dX13_compares_27 : decode cX13_compares 27 = .ok (.iconst 0, 1) := by decide +kernel
theorem dX13_compares_28 : decode cX13_compares 28 = .ok (.ireturn, 1) := by decide +kernel
theorem dX13_compares_29 : decode cX13_compares 29 = .ok (.aload_n 0, 1) := by decide +kernel
theorem dX13_compares_30 : decode cX13_compares 30 = .ok (.sipush 1000, 3) := by decide +kernel
theorem dX13_compares_33 : decode cX13_compares 33 = .ok (.aload_n 0, 1) := by decide +kernel
theorem dX13_compares_34 : decode cX13_compares 34 = .ok (.bipush 60, 2) := by decide +kernel
theorem dX13_compares_36 : decode cX13_compares 36 = .ok (.invokevirtual 315, 3) := by decide +kernel
theorem dX13_compares_39 : decode cX13_compares 39 = .ok (.ifCond .eq 8, 3) := by decide +kernel
theorem dX13_compares_42 : decode cX13_compares 42 = .ok (.bipush 6, 2) := by decide +kernel
theorem dX13_compares_44 : decode cX13_compares 44 = .ok (.goto 19, 3) := by decide +kernel
theorem dX13_compares_47 : decode cX13_compares 47 = .ok (.aload_n 0, 1) := by decide +kernel
theorem dX13_compares_48 : decode cX13_compares 48 = .ok (.bipush 62, 2) := by decide +kernel
theorem dX13_compares_50 : decode cX13_compares 50 = .ok (.invokevirtual 315, 3) := by decide +kernel
theorem dX13_compares_53 : decode cX13_compares 53 = .ok (.ifCond .eq 8, 3) := by decide +kernel
theorem dX13_compares_56 : decode cX13_compares 56 = .ok (.bipush 7, 2) := by decide +kernel
theorem dX13_compares_58 : decode cX13_compares 58 = .ok (.goto 5, 3) := by decide +kernel
theorem dX13_compares_61 : decode cX13_compares 61 = .ok (.bipush 8, 2) := by decide +kernel
theorem dX13_compares_63 : decode cX13_compares 63 = .ok (.iadd, 1) := by decide +kernel
theorem dX13_compares_64 : decode cX13_compares 64 = .ok (.invokevirtual 307, 3) := by decide +kernel
theorem dX13_compares_67 : decode cX13_compares 67 = .ok (.aload_n 0, 1) := by decide +kernel
theorem dX13_compares_68 : decode cX13_compares 68 = .ok (.iconst 1, 1) := by decide +kernel
theorem dX13_compares_69 : decode cX13_compares 69 = .ok (.invokevirtual 307, 3) := by decide +kernel
theorem dX13_compares_72 : decode cX13_compares 72 = .ok (.aload_n 0, 1) := by decide +kernel
theorem dX13_compares_73 : decode cX13_compares 73 = .ok (.invokevirtual 318, 3) := by decide +kernel
theorem dX13_compares_76 : decode cX13_compares 76 = .ok (.ireturn, 1) := by decide +kernel
theorem dX13_reads_0 : decode cX13_reads 0 = .ok (.aload_n 0, 1) := by decide +kernel
theorem dX13_reads_1 : decode cX13_reads 1 = .ok (.iconst 0, 1) := by decide +kernel
theorem dX13_reads_2 : decode cX13_reads 2 = .ok (.putfield 272, 3) := by decide +kernel
theorem dX13_reads_5 : decode cX13_reads 5 = .ok (.aload_n 0, 1) := by decide +kernel
theorem dX13_reads_6 : decode cX13_reads 6 = .ok (.iconst 0, 1) := by decide +kernel
theorem dX13_reads_7 : decode cX13_reads 7 = .ok (.putfield 295, 3) := by decide +kernel
theorem dX13_reads_10 : decode cX13_reads 10 = .ok (.aload_n 0, 1) := by decide +kernel
theorem dX13_reads_11 : decode cX13_reads 11 = .ok (.iconst 0, 1) := by decide +kernel
theorem dX13_reads_12 : decode cX13_reads 12 = .ok (.putfield 304, 3) := by decide +kernel
theorem dX13_reads_15 : decode cX13_reads 15 = .ok (.aload_n 0, 1) := by decide +kernel
theorem dX13_reads_16 : decode cX13_reads 16 = .ok (.iconst 0, 1) := by decide +kernel
theorem dX13_reads_17 : decode cX13_reads 17 = .ok (.putfield 298, 3) := by decide +kernel
theorem dX13_reads_20 : decode cX13_reads 20 = .ok (.aload_n 0, 1) := by decide +kernel
theorem dX13_reads_21 : decode cX13_reads 21 = .ok (.iconst 0, 1) := by decide +kernel
theorem dX13_reads_22 : decode cX13_reads 22 = .ok (.putfield 361, 3) := by decide +kernel
theorem dX13_reads_25 : decode cX13_reads 25 = .ok (.iconst 0, 1) := by decide +kernel
theorem dX13_reads_26 : decode cX13_reads 26 = .ok (.istore_n 1, 1) := by decide +kernel
theorem dX13_reads_27 : decode cX13_reads 27 = .ok (.iload_n 1, 1) := by decide +kernel
theorem dX13_reads_28 : decode cX13_reads 28 = .ok (.bipush 14, 2) := by decide +kernel
theorem dX13_reads_30 : decode cX13_reads 30 = .ok (.if_icmp .ge 23, 3) := by decide +kernel
theorem dX13_reads_33 : decode cX13_reads 33 = .ok (.aload_n 0, 1) := by decide +kernel
theorem dX13_reads_34 : decode cX13_reads 34 = .ok (.getfield 23, 3) := by decide +kernel
theorem dX13_reads_37 : decode cX13_reads 37 = .ok (.iload_n 1, 1) := by decide +kernel
theorem dX13_reads_38 : decode cX13_reads 38 = .ok (.iconst (-1), 1) := by decide +kernel
theorem dX13_reads_39 : decode cX13_reads 39 = .ok (.iastore, 1) := by decide +kernel
theorem dX13_reads_40 : decode cX13_reads 40 = .ok (.aload_n 0, 1) := by decide +kernel
theorem dX13_reads_41 : decode cX13_reads 41 = .ok (.getfield 26, 3) := by decide +kernel
theorem dX13_reads_44 : decode cX13_reads 44 = .ok (.iload_n 1, 1) := by decide +kernel
theorem dX13_reads_45 : decode cX13_reads 45 = .ok (.iconst (-1), 1) := by decide +kernel
theorem dX13_reads_46 : decode cX13_reads 46 = .ok (.iastore, 1) := by decide +kernel
theorem dX13_reads_47 : decode cX13_reads 47 = .ok (.iinc 1 1, 3) := by decide +kernel
theorem dX13_reads_50 : decode cX13_reads 50 = .ok (.goto (-23), 3) := by decide +kernel
theorem dX13_reads_53 : decode cX13_reads 53 = .ok (.aload_n 0, 1) := by decide +kernel
theorem dX13_reads_54 : decode cX13_reads 54 = .ok (.invokevirtual 301, 3) := by decide +kernel
theorem dX13_reads_57 : decode cX13_reads 57 = .ok (.aload_n 0, 1) := by decide +kernel
theorem dX13_reads_58 : decode cX13_reads 58 = .ok (.iconst 0, 1) := by decide +kernel
theorem dX13_reads_59 : decode cX13_reads 59 = .ok (.invokevirtual 307, 3) := by decide +kernel
theorem dX13_reads_62 : decode cX13_reads 62 = .ok (.aload_n 0, 1) := by decide +kernel
theorem dX13_reads_63 : decode cX13_reads 63 = .ok (.getfield 295, 3) := by decide +kernel
theorem dX13_reads_66 : decode cX13_reads 66 = .ok (.ifCond .le 34, 3) := by decide +kernel
theorem dX13_reads_69 : decode cX13_reads 69 = .ok (.aload_n 0, 1) := by decide +kernel
theorem dX13_reads_70 : decode cX13_reads 70 = .ok (.dup, 1) := by decide +kernel
theorem dX13_reads_71 : decode cX13_reads 71 = .ok (.getfield 295, 3) := by decide +kernel
theorem dX13_reads_74 : decode cX13_reads 74 = .ok (.iconst 1, 1) := by decide +kernel
theorem dX13_reads_75 : decode cX13_reads 75 = .ok (.isub, 1) := by decide +kernel
theorem dX13_reads_76 : decode cX13_reads 76 = .ok (.putfield 295, 3) := by decide +kernel
theorem dX13_reads_79 : decode cX13_reads 79 = .ok (.aload_n 0, 1) := by decide +kernel
theorem dX13_reads_80 : decode cX13_reads 80 = .ok (.aload_n 0, 1) := by decide +kernel
theorem dX13_reads_81 : decode cX13_reads 81 = .ok (.getfield 13, 3) := by decide +kernel
theorem dX13_reads_84 : decode cX13_reads 84 = .ok (.aload_n 0, 1) := by decide +kernel
theorem dX13_reads_85 : decode cX13_reads 85 = .ok (.getfield 295, 3) := by decide +kernel
theorem dX13_reads_88 : decode cX13_reads 88 = .ok (.iaload, 1) := by decide +kernel
theorem dX13_reads_89 : decode cX13_reads 89 = .ok (.invokevirtual 368, 3) := by decide +kernel
theorem dX13_reads_92 : decode cX13_reads 92 = .ok (.ifCond .ne (-30), 3) := by decide +kernel
theorem dX13_reads_95 : decode cX13_reads 95 = .ok (.aload_n 0, 1) := by decide +kernel
theorem dX13_reads_96 : decode cX13_reads 96 = .ok (.getfield 275, 3) := by decide +kernel
theorem dX13_reads_99 : decode cX13_reads 99 = .ok (.ireturn, 1) := by decide +kernel
theorem dX13_reads_100 : decode cX13_reads 100 = .ok (.iconst (-1), 1) := by decide +kernel
theorem dX13_reads_101 : decode cX13_reads 101 = .ok (.ireturn, 1) := by decide +kernel
theorem dX13_fault_0 : decode cX13_fault 0 = .ok (.aload_n 0, 1) := by decide +kernel
theorem dX13_fault_1 : decode cX13_fault 1 = .ok (.invokevirtual 371, 3) := by decide +kernel
theorem dX13_fault_4 : decode cX13_fault 4 = .ok (.ireturn, 1) := by decide +kernel
theorem dX13_sheet_0 : decode cX13_sheet 0 = .ok (.aload_n 0, 1) := by decide +kernel
theorem dX13_sheet_1 : decode cX13_sheet 1 = .ok (.getfield 374, 3) := by decide +kernel
theorem dX13_sheet_4 : decode cX13_sheet 4 = .ok (.bipush 12, 2) := by decide +kernel
theorem dX13_sheet_6 : decode cX13_sheet 6 = .ok (.if_icmp .eq 11, 3) := by decide +kernel
theorem dX13_sheet_9 : decode cX13_sheet 9 = .ok (.aload_n 0, 1) := by decide +kernel
theorem dX13_sheet_10 : decode cX13_sheet 10 = .ok (.invokevirtual 371, 3) := by decide +kernel
theorem dX13_sheet_13 : decode cX13_sheet 13 = .ok (.iconst (-1), 1) := by decide +kernel
theorem dX13_sheet_14 : decode cX13_sheet 14 = .ok (.if_icmp .eq 5, 3) := by decide +kernel
theorem dX13_sheet_17 : decode cX13_sheet 17 = .ok (.iconst (-1), 1) := by decide +kernel
theorem dX13_sheet_18 : decode cX13_sheet 18 = .ok (.ireturn, 1) := by decide +kernel
theorem dX13_sheet_19 : decode cX13_sheet 19 = .ok (.iconst 0, 1) := by decide +kernel
theorem dX13_sheet_20 : decode cX13_sheet 20 = .ok (.istore_n 1, 1) := by decide +kernel
theorem dX13_sheet_21 : decode cX13_sheet 21 = .ok (.iload_n 1, 1) := by decide +kernel
theorem dX13_sheet_22 : decode cX13_sheet 22 = .ok (.aload_n 0, 1) := by decide +kernel
theorem dX13_sheet_23 : decode cX13_sheet 23 = .ok (.getfield 298, 3) := by decide +kernel
theorem dX13_sheet_26 : decode cX13_sheet 26 = .ok (.if_icmp .ge 51, 3) := by decide +kernel
theorem dX13_sheet_29 : decode cX13_sheet 29 = .ok (.aload_n 0, 1) := by decide +kernel
theorem dX13_sheet_30 : decode cX13_sheet 30 = .ok (.getfield 35, 3) := by decide +kernel
theorem dX13_sheet_33 : decode cX13_sheet 33 = .ok (.sipush 600, 3) := by decide +kernel
theorem dX13_sheet_36 : decode cX13_sheet 36 = .ok (.aload_n 0, 1) := by decide +kernel
theorem dX13_sheet_37 : decode cX13_sheet 37 = .ok (.getfield 374, 3) := by decide +kernel
theorem dX13_sheet_40 : decode cX13_sheet 40 = .ok (.imul, 1) := by decide +kernel
theorem dX13_sheet_41 : decode cX13_sheet 41 = .ok (.iload_n 1, 1) := by decide +kernel
theorem dX13_sheet_42 : decode cX13_sheet 42 = .ok (.iadd, 1) := by decide +kernel
theorem dX13_sheet_43 : decode cX13_sheet 43 = .ok (.aload_n 0, 1) := by decide +kernel
theorem dX13_sheet_44 : decode cX13_sheet 44 = .ok (.getfield 17, 3) := by decide +kernel
theorem dX13_sheet_47 : decode cX13_sheet 47 = .ok (.iload_n 1, 1) := by decide +kernel
theorem dX13_sheet_48 : decode cX13_sheet 48 = .ok (.iaload, 1) := by decide +kernel
theorem dX13_sheet_49 : decode cX13_sheet 49 = .ok (.iastore, 1) := by decide +kernel
theorem dX13_sheet_50 : decode cX13_sheet 50 = .ok (.aload_n 0, 1) := by decide +kernel
theorem dX13_sheet_51 : decode cX13_sheet 51 = .ok (.getfield 38, 3) := by decide +kernel
theorem dX13_sheet_54 : decode cX13_sheet 54 = .ok (.sipush 600, 3) := by decide +kernel
theorem dX13_sheet_57 : decode cX13_sheet 57 = .ok (.aload_n 0, 1) := by decide +kernel
theorem dX13_sheet_58 : decode cX13_sheet 58 = .ok (.getfield 374, 3) := by decide +kernel
theorem dX13_sheet_61 : decode cX13_sheet 61 = .ok (.imul, 1) := by decide +kernel
theorem dX13_sheet_62 : decode cX13_sheet 62 = .ok (.iload_n 1, 1) := by decide +kernel
theorem dX13_sheet_63 : decode cX13_sheet 63 = .ok (.iadd, 1) := by decide +kernel
theorem dX13_sheet_64 : decode cX13_sheet 64 = .ok (.aload_n 0, 1) := by decide +kernel
theorem dX13_sheet_65 : decode cX13_sheet 65 = .ok (.getfield 20, 3) := by decide +kernel
theorem dX13_sheet_68 : decode cX13_sheet 68 = .ok (.iload_n 1, 1) := by decide +kernel
theorem dX13_sheet_69 : decode cX13_sheet 69 = .ok (.iaload, 1) := by decide +kernel
theorem dX13_sheet_70 : decode cX13_sheet 70 = .ok (.iastore, 1) := by decide +kernel
theorem dX13_sheet_71 : decode cX13_sheet 71 = .ok (.iinc 1 1, 3) := by decide +kernel
theorem dX13_sheet_74 : decode cX13_sheet 74 = .ok (.goto (-53), 3) := by decide +kernel
theorem dX13_sheet_77 : decode cX13_sheet 77 = .ok (.iconst 0, 1) := by decide +kernel
theorem dX13_sheet_78 : decode cX13_sheet 78 = .ok (.istore_n 1, 1) := by decide +kernel
theorem dX13_sheet_79 : decode cX13_sheet 79 = .ok (.iload_n 1, 1) := by decide +kernel
theorem dX13_sheet_80 : decode cX13_sheet 80 = .ok (.bipush 14, 2) := by decide +kernel
theorem dX13_sheet_82 : decode cX13_sheet 82 = .ok (.if_icmp .ge 49, 3) := by decide +kernel
theorem dX13_sheet_85 : decode cX13_sheet 85 = .ok (.aload_n 0, 1) := by decide +kernel
theorem dX13_sheet_86 : decode cX13_sheet 86 = .ok (.getfield 41, 3) := by decide +kernel
theorem dX13_sheet_89 : decode cX13_sheet 89 = .ok (.bipush 14, 2) := by decide +kernel
theorem dX13_sheet_91 : decode cX13_sheet 91 = .ok (.aload_n 0, 1) := by decide +kernel
theorem dX13_sheet_92 : decode cX13_sheet 92 = .ok (.getfield 374, 3) := by decide +kernel
theorem dX13_sheet_95 : decode cX13_sheet 95 = .ok (.imul, 1) := by decide +kernel
theorem dX13_sheet_96 : decode cX13_sheet 96 = .ok (.iload_n 1, 1) := by decide +kernel
theorem dX13_sheet_97 : decode cX13_sheet 97 = .ok (.iadd, 1) := by decide +kernel
theorem dX13_sheet_98 : decode cX13_sheet 98 = .ok (.aload_n 0, 1) := by decide +kernel
theorem dX13_sheet_99 : decode cX13_sheet 99 = .ok (.getfield 23, 3) := by decide +kernel
theorem dX13_sheet_102 : decode cX13_sheet 102 = .ok (.iload_n 1, 1) := by decide +kernel
theorem dX13_sheet_103 : decode cX13_sheet 103 = .ok (.iaload, 1) := by decide +kernel
theorem dX13_sheet_104 : decode cX13_sheet 104 = .ok (.iastore, 1) := by decide +kernel
theorem dX13_sheet_105 : decode cX13_sheet 105 = .ok (.aload_n 0, 1) := by decide +kernel
theorem dX13_sheet_106 : decode cX13_sheet 106 = .ok (.getfield 44, 3) := by decide +kernel
theorem dX13_sheet_109 : decode cX13_sheet 109 = .ok (.bipush 14, 2) := by decide +kernel
theorem dX13_sheet_111 : decode cX13_sheet 111 = .ok (.aload_n 0, 1) := by decide +kernel
theorem dX13_sheet_112 : decode cX13_sheet 112 = .ok (.getfield 374, 3) := by decide +kernel
theorem dX13_sheet_115 : decode cX13_sheet 115 = .ok (.imul, 1) := by decide +kernel
theorem dX13_sheet_116 : decode cX13_sheet 116 = .ok (.iload_n 1, 1) := by decide +kernel
theorem dX13_sheet_117 : decode cX13_sheet 117 = .ok (.iadd, 1) := by decide +kernel
theorem dX13_sheet_118 : decode cX13_sheet 118 = .ok (.aload_n 0, 1) := by decide +kernel
theorem dX13_sheet_119 : decode cX13_sheet 119 = .ok (.getfield 26, 3) := by decide +kernel
theorem dX13_sheet_122 : decode cX13_sheet 122 = .ok (.iload_n 1, 1) := by decide +kernel
theorem dX13_sheet_123 : decode cX13_sheet 123 = .ok (.iaload, 1) := by decide +kernel
theorem dX13_sheet_124 : decode cX13_sheet 124 = .ok (.iastore, 1) := by decide +kernel
theorem dX13_sheet_125 : decode cX13_sheet 125 = .ok (.iinc 1 1, 3) := by decide +kernel
theorem dX13_sheet_128 : decode cX13_sheet 128 = .ok (.goto (-49), 3) := by decide +kernel
theorem dX13_sheet_131 : decode cX13_sheet 131 = .ok (.aload_n 0, 1) := by decide +kernel
theorem dX13_sheet_132 : decode cX13_sheet 132 = .ok (.getfield 47, 3) := by decide +kernel
theorem dX13_sheet_135 : decode cX13_sheet 135 = .ok (.aload_n 0, 1) := by decide +kernel
theorem dX13_sheet_136 : decode cX13_sheet 136 = .ok (.getfield 374, 3) := by decide +kernel
theorem dX13_sheet_139 : decode cX13_sheet 139 = .ok (.aload_n 0, 1) := by decide +kernel
theorem dX13_sheet_140 : decode cX13_sheet 140 = .ok (.getfield 361, 3) := by decide +kernel
theorem dX13_sheet_143 : decode cX13_sheet 143 = .ok (.iastore, 1) := by decide +kernel
theorem dX13_sheet_144 : decode cX13_sheet 144 = .ok (.iconst 0, 1) := by decide +kernel
theorem dX13_sheet_145 : decode cX13_sheet 145 = .ok (.istore_n 1, 1) := by decide +kernel
theorem dX13_sheet_146 : decode cX13_sheet 146 = .ok (.iload_n 1, 1) := by decide +kernel
theorem dX13_sheet_147 : decode cX13_sheet 147 = .ok (.aload_n 0, 1) := by decide +kernel
theorem dX13_sheet_148 : decode cX13_sheet 148 = .ok (.getfield 361, 3) := by decide +kernel
theorem dX13_sheet_151 : decode cX13_sheet 151 = .ok (.if_icmp .ge 72, 3) := by decide +kernel
theorem dX13_sheet_154 : decode cX13_sheet 154 = .ok (.iconst 4, 1) := by decide +kernel
theorem dX13_sheet_155 : decode cX13_sheet 155 = .ok (.aload_n 0, 1) := by decide +kernel
theorem dX13_sheet_156 : decode cX13_sheet 156 = .ok (.getfield 374, 3) := by decide +kernel
theorem dX13_sheet_159 : decode cX13_sheet 159 = .ok (.imul, 1) := by decide +kernel
theorem dX13_sheet_160 : decode cX13_sheet 160 = .ok (.iload_n 1, 1) := by decide +kernel
theorem dX13_sheet_161 : decode cX13_sheet 161 = .ok (.iadd, 1) := by decide +kernel
theorem dX13_sheet_162 : decode cX13_sheet 162 = .ok (.istore_n 2, 1) := by decide +kernel
theorem dX13_sheet_163 : decode cX13_sheet 163 = .ok (.aload_n 0, 1) := by decide +kernel
theorem dX13_sheet_164 : decode cX13_sheet 164 = .ok (.getfield 53, 3) := by decide +kernel
theorem dX13_sheet_167 : decode cX13_sheet 167 = .ok (.iload_n 2, 1) := by decide +kernel
theorem dX13_sheet_168 : decode cX13_sheet 168 = .ok (.aload_n 0, 1) := by decide +kernel
theorem dX13_sheet_169 : decode cX13_sheet 169 = .ok (.getfield 32, 3) := by decide +kernel
theorem dX13_sheet_172 : decode cX13_sheet 172 = .ok (.iload_n 1, 1) := by decide +kernel
theorem dX13_sheet_173 : decode cX13_sheet 173 = .ok (.iaload, 1) := by decide +kernel
theorem dX13_sheet_174 : decode cX13_sheet 174 = .ok (.iastore, 1) := by decide +kernel
theorem dX13_sheet_175 : decode cX13_sheet 175 = .ok (.iconst 0, 1) := by decide +kernel
theorem dX13_sheet_176 : decode cX13_sheet 176 = .ok (.istore_n 3, 1) := by decide +kernel
theorem dX13_sheet_177 : decode cX13_sheet 177 = .ok (.iload_n 3, 1) := by decide +kernel
theorem dX13_sheet_178 : decode cX13_sheet 178 = .ok (.aload_n 0, 1) := by decide +kernel
theorem dX13_sheet_179 : decode cX13_sheet 179 = .ok (.getfield 32, 3) := by decide +kernel
theorem dX13_sheet_182 : decode cX13_sheet 182 = .ok (.iload_n 1, 1) := by decide +kernel
theorem dX13_sheet_183 : decode cX13_sheet 183 = .ok (.iaload, 1) := by decide +kernel
theorem dX13_sheet_184 : decode cX13_sheet 184 = .ok (.if_icmp .ge 33, 3) := by decide +kernel
theorem dX13_sheet_187 : decode cX13_sheet 187 = .ok (.aload_n 0, 1) := by decide +kernel
theorem dX13_sheet_188 : decode cX13_sheet 188 = .ok (.getfield 50, 3) := by decide +kernel
theorem dX13_sheet_191 : decode cX13_sheet 191 = .ok (.bipush 8, 2) := by decide +kernel
theorem dX13_sheet_193 : decode cX13_sheet 193 = .ok (.iload_n 2, 1) := by decide +kernel
theorem dX13_sheet_194 : decode cX13_sheet 194 = .ok (.imul, 1) := by decide +kernel
theorem dX13_sheet_195 : decode cX13_sheet 195 = .ok (.iload_n 3, 1) := by decide +kernel
theorem dX13_sheet_196 : decode cX13_sheet 196 = .ok (.iadd, 1) := by decide +kernel
theorem dX13_sheet_197 : decode cX13_sheet 197 = .ok (.aload_n 0, 1) := by decide +kernel
theorem dX13_sheet_198 : decode cX13_sheet 198 = .ok (.getfield 9, 3) := by decide +kernel
theorem dX13_sheet_201 : decode cX13_sheet 201 = .ok (.aload_n 0, 1) := by decide +kernel
theorem dX13_sheet_202 : decode cX13_sheet 202 = .ok (.getfield 29, 3) := by decide +kernel
theorem dX13_sheet_205 : decode cX13_sheet 205 = .ok (.iload_n 1, 1) := by decide +kernel
theorem dX13_sheet_206 : decode cX13_sheet 206 = .ok (.iaload, 1) := by decide +kernel
theorem dX13_sheet_207 : decode cX13_sheet 207 = .ok (.iload_n 3, 1) := by decide +kernel
theorem dX13_sheet_208 : decode cX13_sheet 208 = .ok (.iadd, 1) := by decide +kernel
theorem dX13_sheet_209 : decode cX13_sheet 209 = .ok (.baload, 1) := by decide +kernel
theorem dX13_sheet_210 : decode cX13_sheet 210 = .ok (.bastore, 1) := by decide +kernel
theorem dX13_sheet_211 : decode cX13_sheet 211 = .ok (.iinc 3 1, 3) := by decide +kernel
theorem dX13_sheet_214 : decode cX13_sheet 214 = .ok (.goto (-37), 3) := by decide +kernel
theorem dX13_sheet_217 : decode cX13_sheet 217 = .ok (.iinc 1 1, 3) := by decide +kernel
theorem dX13_sheet_220 : decode cX13_sheet 220 = .ok (.goto (-74), 3) := by decide +kernel
theorem dX13_sheet_223 : decode cX13_sheet 223 = .ok (.aload_n 0, 1) := by decide +kernel
theorem dX13_sheet_224 : decode cX13_sheet 224 = .ok (.iconst 0, 1) := by decide +kernel
theorem dX13_sheet_225 : decode cX13_sheet 225 = .ok (.putfield 252, 3) := by decide +kernel
theorem dX13_sheet_228 : decode cX13_sheet 228 = .ok (.aload_n 0, 1) := by decide +kernel
theorem dX13_sheet_229 : decode cX13_sheet 229 = .ok (.dup, 1) := by decide +kernel
theorem dX13_sheet_230 : decode cX13_sheet 230 = .ok (.getfield 374, 3) := by decide +kernel
theorem dX13_sheet_233 : decode cX13_sheet 233 = .ok (.iconst 1, 1) := by decide +kernel
theorem dX13_sheet_234 : decode cX13_sheet 234 = .ok (.iadd, 1) := by decide +kernel
theorem dX13_sheet_235 : decode cX13_sheet 235 = .ok (.putfield 374, 3) := by decide +kernel
theorem dX13_sheet_238 : decode cX13_sheet 238 = .ok (.aload_n 0, 1) := by decide +kernel
theorem dX13_sheet_239 : decode cX13_sheet 239 = .ok (.getfield 374, 3) := by decide +kernel
theorem dX13_sheet_242 : decode cX13_sheet 242 = .ok (.iconst 1, 1) := by decide +kernel
theorem dX13_sheet_243 : decode cX13_sheet 243 = .ok (.isub, 1) := by decide +kernel
theorem dX13_sheet_244 : decode cX13_sheet 244 = .ok (.ireturn, 1) := by decide +kernel
theorem dX13_isVolume_0 : decode cX13_isVolume 0 = .ok (.iload_n 0, 1) := by decide +kernel
theorem dX13_isVolume_1 : decode cX13_isVolume 1 = .ok (.iconst 0, 1) := by decide +kernel
theorem dX13_isVolume_2 : decode cX13_isVolume 2 = .ok (.iconst 5, 1) := by decide +kernel
theorem dX13_isVolume_3 : decode cX13_isVolume 3 = .ok (.invokestatic 256, 3) := by decide +kernel
theorem dX13_isVolume_6 : decode cX13_isVolume 6 = .ok (.ireturn, 1) := by decide +kernel
theorem dX13_force_0 : decode cX13_force 0 = .ok (.iload_n 1, 1) := by decide +kernel
theorem dX13_force_1 : decode cX13_force 1 = .ok (.iconst 0, 1) := by decide +kernel
theorem dX13_force_2 : decode cX13_force 2 = .ok (.aload_n 0, 1) := by decide +kernel
theorem dX13_force_3 : decode cX13_force 3 = .ok (.getfield 374, 3) := by decide +kernel
theorem dX13_force_6 : decode cX13_force 6 = .ok (.iconst 1, 1) := by decide +kernel
theorem dX13_force_7 : decode cX13_force 7 = .ok (.isub, 1) := by decide +kernel
theorem dX13_force_8 : decode cX13_force 8 = .ok (.invokestatic 256, 3) := by decide +kernel
theorem dX13_force_11 : decode cX13_force 11 = .ok (.ifCond .eq 33, 3) := by decide +kernel
theorem dX13_force_14 : decode cX13_force 14 = .ok (.iload_n 2, 1) := by decide +kernel
theorem dX13_force_15 : decode cX13_force 15 = .ok (.iconst (-1), 1) := by decide +kernel
theorem dX13_force_16 : decode cX13_force 16 = .ok (.if_icmp .eq 19, 3) := by decide +kernel
theorem dX13_force_19 : decode cX13_force 19 = .ok (.iload_n 2, 1) := by decide +kernel
theorem dX13_force_20 : decode cX13_force 20 = .ok (.invokestatic 377, 3) := by decide +kernel
theorem dX13_force_23 : decode cX13_force 23 = .ok (.ifCond .eq 21, 3) := by decide +kernel
theorem dX13_force_26 : decode cX13_force 26 = .ok (.aload_n 0, 1) := by decide +kernel
theorem dX13_force_27 : decode cX13_force 27 = .ok (.getfield 68, 3) := by decide +kernel
theorem dX13_force_30 : decode cX13_force 30 = .ok (.iload_n 2, 1) := by decide +kernel
theorem dX13_force_31 : decode cX13_force 31 = .ok (.baload, 1) := by decide +kernel
theorem dX13_force_32 : decode cX13_force 32 = .ok (.ifCond .ne 12, 3) := by decide +kernel
theorem dX13_force_35 : decode cX13_force 35 = .ok (.aload_n 0, 1) := by decide +kernel
theorem dX13_force_36 : decode cX13_force 36 = .ok (.getfield 380, 3) := by decide +kernel
theorem dX13_force_39 : decode cX13_force 39 = .ok (.bipush 20, 2) := by decide +kernel
theorem dX13_force_41 : decode cX13_force 41 = .ok (.if_icmp .ne 5, 3) := by decide +kernel
theorem dX13_force_44 : decode cX13_force 44 = .ok (.iconst (-1), 1) := by decide +kernel
theorem dX13_force_45 : decode cX13_force 45 = .ok (.ireturn, 1) := by decide +kernel
theorem dX13_force_46 : decode cX13_force 46 = .ok (.aload_n 0, 1) := by decide +kernel
theorem dX13_force_47 : decode cX13_force 47 = .ok (.getfield 56, 3) := by decide +kernel
theorem dX13_force_50 : decode cX13_force 50 = .ok (.aload_n 0, 1) := by decide +kernel
theorem dX13_force_51 : decode cX13_force 51 = .ok (.getfield 380, 3) := by decide +kernel
theorem dX13_force_54 : decode cX13_force 54 = .ok (.iload_n 1, 1) := by decide +kernel
theorem dX13_force_55 : decode cX13_force 55 = .ok (.iastore, 1) := by decide +kernel
theorem dX13_force_56 : decode cX13_force 56 = .ok (.aload_n 0, 1) := by decide +kernel
theorem dX13_force_57 : decode cX13_force 57 = .ok (.getfield 59, 3) := by decide +kernel
theorem dX13_force_60 : decode cX13_force 60 = .ok (.aload_n 0, 1) := by decide +kernel
theorem dX13_force_61 : decode cX13_force 61 = .ok (.getfield 380, 3) := by decide +kernel
theorem dX13_force_64 : decode cX13_force 64 = .ok (.iload_n 2, 1) := by decide +kernel
theorem dX13_force_65 : decode cX13_force 65 = .ok (.iastore, 1) := by decide +kernel
theorem dX13_force_66 : decode cX13_force 66 = .ok (.aload_n 0, 1) := by decide +kernel
theorem dX13_force_67 : decode cX13_force 67 = .ok (.getfield 62, 3) := by decide +kernel
theorem dX13_force_70 : decode cX13_force 70 = .ok (.aload_n 0, 1) := by decide +kernel
theorem dX13_force_71 : decode cX13_force 71 = .ok (.getfield 380, 3) := by decide +kernel
theorem dX13_force_74 : decode cX13_force 74 = .ok (.aload_n 0, 1) := by decide +kernel
theorem dX13_force_75 : decode cX13_force 75 = .ok (.getfield 383, 3) := by decide +kernel
theorem dX13_force_78 : decode cX13_force 78 = .ok (.iastore, 1) := by decide +kernel
theorem dX13_force_79 : decode cX13_force 79 = .ok (.aload_n 0, 1) := by decide +kernel
theorem dX13_force_80 : decode cX13_force 80 = .ok (.dup, 1) := by decide +kernel
theorem dX13_force_81 : decode cX13_force 81 = .ok (.getfield 380, 3) := by decide +kernel
theorem dX13_force_84 : decode cX13_force 84 = .ok (.iconst 1, 1) := by decide +kernel
theorem dX13_force_85 : decode cX13_force 85 = .ok (.iadd, 1) := by decide +kernel
theorem dX13_force_86 : decode cX13_force 86 = .ok (.putfield 380, 3) := by decide +kernel
theorem dX13_force_89 : decode cX13_force 89 = .ok (.aload_n 0, 1) := by decide +kernel
theorem dX13_force_90 : decode cX13_force 90 = .ok (.getfield 380, 3) := by decide +kernel
theorem dX13_force_93 : decode cX13_force 93 = .ok (.ireturn, 1) := by decide +kernel
theorem dX13_inForce_0 : decode cX13_inForce 0 = .ok (.aload_n 0, 1) := by decide +kernel
theorem dX13_inForce_1 : decode cX13_inForce 1 = .ok (.getfield 380, 3) := by decide +kernel
theorem dX13_inForce_4 : decode cX13_inForce 4 = .ok (.iconst 1, 1) := by decide +kernel
theorem dX13_inForce_5 : decode cX13_inForce 5 = .ok (.isub, 1) := by decide +kernel
theorem dX13_inForce_6 : decode cX13_inForce 6 = .ok (.istore 4, 2) := by decide +kernel
theorem dX13_inForce_8 : decode cX13_inForce 8 = .ok (.iload 4, 2) := by decide +kernel
theorem dX13_inForce_10 : decode cX13_inForce 10 = .ok (.ifCond .lt 74, 3) := by decide +kernel
theorem dX13_inForce_13 : decode cX13_inForce 13 = .ok (.aload_n 0, 1) := by decide +kernel
theorem dX13_inForce_14 : decode cX13_inForce 14 = .ok (.getfield 62, 3) := by decide +kernel
theorem dX13_inForce_17 : decode cX13_inForce 17 = .ok (.iload 4, 2) := by decide +kernel
theorem dX13_inForce_19 : decode cX13_inForce 19 = .ok (.iaload, 1) := by decide +kernel
theorem dX13_inForce_20 : decode cX13_inForce 20 = .ok (.iload_n 3, 1) := by decide +kernel
theorem dX13_inForce_21 : decode cX13_inForce 21 = .ok (.if_icmp .gt 57, 3) := by decide +kernel
theorem dX13_inForce_24 : decode cX13_inForce 24 = .ok (.aload_n 0, 1) := by decide +kernel
theorem dX13_inForce_25 : decode cX13_inForce 25 = .ok (.getfield 59, 3) := by decide +kernel
theorem dX13_inForce_28 : decode cX13_inForce 28 = .ok (.iload 4, 2) := by decide +kernel
theorem dX13_inForce_30 : decode cX13_inForce 30 = .ok (.iaload, 1) := by decide +kernel
theorem dX13_inForce_31 : decode cX13_inForce 31 = .ok (.iconst (-1), 1) := by decide +kernel
theorem dX13_inForce_32 : decode cX13_inForce 32 = .ok (.if_icmp .eq 17, 3) := by decide +kernel
theorem dX13_inForce_35 : decode cX13_inForce 35 = .ok (.aload_n 0, 1) := by decide +kernel
theorem dX13_inForce_36 : decode cX13_inForce 36 = .ok (.getfield 59, 3) := by decide +kernel
theorem dX13_inForce_39 : decode cX13_inForce 39 = .ok (.iload 4, 2) := by decide +kernel
theorem dX13_inForce_41 : decode cX13_inForce 41 = .ok (.iaload, 1) := by decide +kernel
theorem dX13_inForce_42 : decode cX13_inForce 42 = .ok (.iload_n 2, 1) := by decide +kernel
theorem dX13_inForce_43 : decode cX13_inForce 43 = .ok (.if_icmp .eq 6, 3) := by decide +kernel
theorem dX13_inForce_46 : decode cX13_inForce 46 = .ok (.goto 32, 3) := by decide +kernel
theorem dX13_inForce_49 : decode cX13_inForce 49 = .ok (.aload_n 0, 1) := by decide +kernel
theorem dX13_inForce_50 : decode cX13_inForce 50 = .ok (.getfield 41, 3) := by decide +kernel
theorem dX13_inForce_53 : decode cX13_inForce 53 = .ok (.bipush 14, 2) := by decide +kernel
theorem dX13_inForce_55 : decode cX13_inForce 55 = .ok (.aload_n 0, 1) := by decide +kernel
theorem dX13_inForce_56 : decode cX13_inForce 56 = .ok (.getfield 56, 3) := by decide +kernel
theorem dX13_inForce_59 : decode cX13_inForce 59 = .ok (.iload 4, 2) := by decide +kernel
theorem dX13_inForce_61 : decode cX13_inForce 61 = .ok (.iaload, 1) := by decide +kernel
theorem dX13_inForce_62 : decode cX13_inForce 62 = .ok (.imul, 1) := by decide +kernel
theorem dX13_inForce_63 : decode cX13_inForce 63 = .ok (.iload_n 1, 1) := by decide +kernel
theorem dX13_inForce_64 : decode cX13_inForce 64 = .ok (.iadd, 1) := by decide +kernel
theorem dX13_inForce_65 : decode cX13_inForce 65 = .ok (.iaload, 1) := by decide +kernel
theorem dX13_inForce_66 : decode cX13_inForce 66 = .ok (.iconst (-1), 1) := by decide +kernel
theorem dX13_inForce_67 : decode cX13_inForce 67 = .ok (.if_icmp .eq 11, 3) := by decide +kernel
theorem dX13_inForce_70 : decode cX13_inForce 70 = .ok (.aload_n 0, 1) := by decide +kernel
theorem dX13_inForce_71 : decode cX13_inForce 71 = .ok (.getfield 56, 3) := by decide +kernel
theorem dX13_inForce_74 : decode cX13_inForce 74 = .ok (.iload 4, 2) := by decide +kernel
theorem dX13_inForce_76 : decode cX13_inForce 76 = .ok (.iaload, 1) := by decide +kernel
theorem dX13_inForce_77 : decode cX13_inForce 77 = .ok (.ireturn, 1) := by decide +kernel
theorem dX13_inForce_78 : decode cX13_inForce 78 = .ok (.iinc 4 (-1), 3) := by decide +kernel
theorem dX13_inForce_81 : decode cX13_inForce 81 = .ok (.goto (-73), 3) := by decide +kernel
theorem dX13_inForce_84 : decode cX13_inForce 84 = .ok (.iconst (-1), 1) := by decide +kernel
theorem dX13_inForce_85 : decode cX13_inForce 85 = .ok (.ireturn, 1) := by decide +kernel
theorem dX13_rule_0 : decode cX13_rule 0 = .ok (.iload_n 1, 1) := by decide +kernel
theorem dX13_rule_1 : decode cX13_rule 1 = .ok (.iconst 0, 1) := by decide +kernel
theorem dX13_rule_2 : decode cX13_rule 2 = .ok (.iconst 4, 1) := by decide +kernel
theorem dX13_rule_3 : decode cX13_rule 3 = .ok (.invokestatic 256, 3) := by decide +kernel
theorem dX13_rule_6 : decode cX13_rule 6 = .ok (.ifCond .eq 7, 3) := by decide +kernel
theorem dX13_rule_9 : decode cX13_rule 9 = .ok (.iload_n 1, 1) := by decide +kernel
theorem dX13_rule_10 : decode cX13_rule 10 = .ok (.goto 44, 3) := by decide +kernel
theorem dX13_rule_13 : decode cX13_rule 13 = .ok (.iload_n 1, 1) := by decide +kernel
theorem dX13_rule_14 : decode cX13_rule 14 = .ok (.bipush 10, 2) := by decide +kernel
theorem dX13_rule_16 : decode cX13_rule 16 = .ok (.if_icmp .lt 37, 3) := by decide +kernel
theorem dX13_rule_19 : decode cX13_rule 19 = .ok (.iload_n 1, 1) := by decide +kernel
theorem dX13_rule_20 : decode cX13_rule 20 = .ok (.bipush 10, 2) := by decide +kernel
theorem dX13_rule_22 : decode cX13_rule 22 = .ok (.idiv, 1) := by decide +kernel
theorem dX13_rule_23 : decode cX13_rule 23 = .ok (.iconst 3, 1) := by decide +kernel
theorem dX13_rule_24 : decode cX13_rule 24 = .ok (.if_icmp .gt 29, 3) := by decide +kernel
theorem dX13_rule_27 : decode cX13_rule 27 = .ok (.iload_n 1, 1) := by decide +kernel
theorem dX13_rule_28 : decode cX13_rule 28 = .ok (.bipush 10, 2) := by decide +kernel
theorem dX13_rule_30 : decode cX13_rule 30 = .ok (.irem, 1) := by decide +kernel
theorem dX13_rule_31 : decode cX13_rule 31 = .ok (.iconst 2, 1) := by decide +kernel
theorem dX13_rule_32 : decode cX13_rule 32 = .ok (.if_icmp .gt 21, 3) := by decide +kernel
theorem dX13_rule_35 : decode cX13_rule 35 = .ok (.iconst 5, 1) := by decide +kernel
theorem dX13_rule_36 : decode cX13_rule 36 = .ok (.iconst 3, 1) := by decide +kernel
theorem dX13_rule_37 : decode cX13_rule 37 = .ok (.iload_n 1, 1) := by decide +kernel
theorem dX13_rule_38 : decode cX13_rule 38 = .ok (.bipush 10, 2) := by decide +kernel
theorem dX13_rule_40 : decode cX13_rule 40 = .ok (.idiv, 1) := by decide +kernel
theorem dX13_rule_41 : decode cX13_rule 41 = .ok (.iconst 1, 1) := by decide +kernel
theorem dX13_rule_42 : decode cX13_rule 42 = .ok (.isub, 1) := by decide +kernel
theorem dX13_rule_43 : decode cX13_rule 43 = .ok (.imul, 1) := by decide +kernel
theorem dX13_rule_44 : decode cX13_rule 44 = .ok (.iadd, 1) := by decide +kernel
theorem dX13_rule_45 : decode cX13_rule 45 = .ok (.iload_n 1, 1) := by decide +kernel
theorem dX13_rule_46 : decode cX13_rule 46 = .ok (.bipush 10, 2) := by decide +kernel
theorem dX13_rule_48 : decode cX13_rule 48 = .ok (.irem, 1) := by decide +kernel
theorem dX13_rule_49 : decode cX13_rule 49 = .ok (.iadd, 1) := by decide +kernel
theorem dX13_rule_50 : decode cX13_rule 50 = .ok (.goto 4, 3) := by decide +kernel
theorem dX13_rule_53 : decode cX13_rule 53 = .ok (.iconst (-1), 1) := by decide +kernel
theorem dX13_rule_54 : decode cX13_rule 54 = .ok (.istore 4, 2) := by decide +kernel
theorem dX13_rule_56 : decode cX13_rule 56 = .ok (.iload 4, 2) := by decide +kernel
theorem dX13_rule_58 : decode cX13_rule 58 = .ok (.iconst (-1), 1) := by decide +kernel
theorem dX13_rule_59 : decode cX13_rule 59 = .ok (.if_icmp .eq 36, 3) := by decide +kernel
theorem dX13_rule_62 : decode cX13_rule 62 = .ok (.iload_n 2, 1) := by decide +kernel
theorem dX13_rule_63 : decode cX13_rule 63 = .ok (.iconst 0, 1) := by decide +kernel
theorem dX13_rule_64 : decode cX13_rule 64 = .ok (.bipush 6, 2) := by decide +kernel
theorem dX13_rule_66 : decode cX13_rule 66 = .ok (.invokestatic 256, 3) := by decide +kernel
theorem dX13_rule_69 : decode cX13_rule 69 = .ok (.ifCond .eq 26, 3) := by decide +kernel
theorem dX13_rule_72 : decode cX13_rule 72 = .ok (.iload_n 3, 1) := by decide +kernel
theorem dX13_rule_73 : decode cX13_rule 73 = .ok (.iconst 0, 1) := by decide +kernel
theorem dX13_rule_74 : decode cX13_rule 74 = .ok (.aload_n 0, 1) := by decide +kernel
theorem dX13_rule_75 : decode cX13_rule 75 = .ok (.getfield 383, 3) := by decide +kernel
theorem dX13_rule_78 : decode cX13_rule 78 = .ok (.invokestatic 256, 3) := by decide +kernel
theorem dX13_rule_81 : decode cX13_rule 81 = .ok (.ifCond .eq 14, 3) := by decide +kernel
theorem dX13_rule_84 : decode cX13_rule 84 = .ok (.aload_n 0, 1) := by decide +kernel
theorem dX13_rule_85 : decode cX13_rule 85 = .ok (.iload 4, 2) := by decide +kernel
theorem dX13_rule_87 : decode cX13_rule 87 = .ok (.iload_n 2, 1) := by decide +kernel
theorem dX13_rule_88 : decode cX13_rule 88 = .ok (.iload_n 3, 1) := by decide +kernel
theorem dX13_rule_89 : decode cX13_rule 89 = .ok (.invokevirtual 386, 3) := by decide +kernel
theorem dX13_rule_92 : decode cX13_rule 92 = .ok (.goto 4, 3) := by decide +kernel
theorem dX13_rule_95 : decode cX13_rule 95 = .ok (.iconst (-1), 1) := by decide +kernel
theorem dX13_rule_96 : decode cX13_rule 96 = .ok (.ireturn, 1) := by decide +kernel
theorem dX13_reckoned_0 : decode cX13_reckoned 0 = .ok (.iconst 0, 1) := by decide +kernel
theorem dX13_reckoned_1 : decode cX13_reckoned 1 = .ok (.istore_n 3, 1) := by decide +kernel
theorem dX13_reckoned_2 : decode cX13_reckoned 2 = .ok (.sipush 600, 3) := by decide +kernel
theorem dX13_reckoned_5 : decode cX13_reckoned 5 = .ok (.iload_n 1, 1) := by decide +kernel
theorem dX13_reckoned_6 : decode cX13_reckoned 6 = .ok (.imul, 1) := by decide +kernel
theorem dX13_reckoned_7 : decode cX13_reckoned 7 = .ok (.aload_n 0, 1) := by decide +kernel
theorem dX13_reckoned_8 : decode cX13_reckoned 8 = .ok (.getfield 44, 3) := by decide +kernel
theorem dX13_reckoned_11 : decode cX13_reckoned 11 = .ok (.bipush 14, 2) := by decide +kernel
theorem dX13_reckoned_13 : decode cX13_reckoned 13 = .ok (.iload_n 1, 1) := by decide +kernel
theorem dX13_reckoned_14 : decode cX13_reckoned 14 = .ok (.imul, 1) := by decide +kernel
theorem dX13_reckoned_15 : decode cX13_reckoned 15 = .ok (.iload_n 2, 1) := by decide +kernel
theorem dX13_reckoned_16 : decode cX13_reckoned 16 = .ok (.iadd, 1) := by decide +kernel
theorem dX13_reckoned_17 : decode cX13_reckoned 17 = .ok (.iaload, 1) := by decide +kernel
theorem dX13_reckoned_18 : decode cX13_reckoned 18 = .ok (.iadd, 1) := by decide +kernel
theorem dX13_reckoned_19 : decode cX13_reckoned 19 = .ok (.istore 4, 2) := by decide +kernel
theorem dX13_reckoned_21 : decode cX13_reckoned 21 = .ok (.sipush 600, 3) := by decide +kernel
theorem dX13_reckoned_24 : decode cX13_reckoned 24 = .ok (.iload_n 1, 1) := by decide +kernel
theorem dX13_reckoned_25 : decode cX13_reckoned 25 = .ok (.imul, 1) := by decide +kernel
theorem dX13_reckoned_26 : decode cX13_reckoned 26 = .ok (.aload_n 0, 1) := by decide +kernel
theorem dX13_reckoned_27 : decode cX13_reckoned 27 = .ok (.getfield 41, 3) := by decide +kernel
theorem dX13_reckoned_30 : decode cX13_reckoned 30 = .ok (.bipush 14, 2) := by decide +kernel
theorem dX13_reckoned_32 : decode cX13_reckoned 32 = .ok (.iload_n 1, 1) := by decide +kernel
theorem dX13_reckoned_33 : decode cX13_reckoned 33 = .ok (.imul, 1) := by decide +kernel
theorem dX13_reckoned_34 : decode cX13_reckoned 34 = .ok (.iload_n 2, 1) := by decide +kernel
theorem dX13_reckoned_35 : decode cX13_reckoned 35 = .ok (.iadd, 1) := by decide +kernel
theorem dX13_reckoned_36 : decode cX13_reckoned 36 = .ok (.iaload, 1) := by decide +kernel
theorem dX13_reckoned_37 : decode cX13_reckoned 37 = .ok (.iadd, 1) := by decide +kernel
theorem dX13_reckoned_38 : decode cX13_reckoned 38 = .ok (.istore 5, 2) := by decide +kernel
theorem dX13_reckoned_40 : decode cX13_reckoned 40 = .ok (.iload 5, 2) := by decide +kernel
theorem dX13_reckoned_42 : decode cX13_reckoned 42 = .ok (.iload 4, 2) := by decide +kernel
theorem dX13_reckoned_44 : decode cX13_reckoned 44 = .ok (.if_icmp .ge 121, 3) := by decide +kernel
theorem dX13_reckoned_47 : decode cX13_reckoned 47 = .ok (.aload_n 0, 1) := by decide +kernel
theorem dX13_reckoned_48 : decode cX13_reckoned 48 = .ok (.getfield 35, 3) := by decide +kernel
theorem dX13_reckoned_51 : decode cX13_reckoned 51 = .ok (.iload 5, 2) := by decide +kernel
theorem dX13_reckoned_53 : decode cX13_reckoned 53 = .ok (.iaload, 1) := by decide +kernel
theorem dX13_reckoned_54 : decode cX13_reckoned 54 = .ok (.istore 6, 2) := by decide +kernel
theorem dX13_reckoned_56 : decode cX13_reckoned 56 = .ok (.iload 6, 2) := by decide +kernel
theorem dX13_reckoned_58 : decode cX13_reckoned 58 = .ok (.iconst 1, 1) := by decide +kernel
theorem dX13_reckoned_59 : decode cX13_reckoned 59 = .ok (.if_icmp .gt 42, 3) := by decide +kernel
theorem dX13_reckoned_62 : decode cX13_reckoned 62 = .ok (.aload_n 0, 1) := by decide +kernel
theorem dX13_reckoned_63 : decode cX13_reckoned 63 = .ok (.getfield 198, 3) := by decide +kernel
theorem dX13_reckoned_66 : decode cX13_reckoned 66 = .ok (.iload_n 3, 1) := by decide +kernel
theorem dX13_reckoned_67 : decode cX13_reckoned 67 = .ok (.iload 6, 2) := by decide +kernel
theorem dX13_reckoned_69 : decode cX13_reckoned 69 = .ok (.ifCond .ne 13, 3) := by decide +kernel
theorem dX13_reckoned_72 : decode cX13_reckoned 72 = .ok (.aload_n 0, 1) := by decide +kernel
theorem dX13_reckoned_73 : decode cX13_reckoned 73 = .ok (.getfield 38, 3) := by decide +kernel
theorem dX13_reckoned_76 : decode cX13_reckoned 76 = .ok (.iload 5, 2) := by decide +kernel
theorem dX13_reckoned_78 : decode cX13_reckoned 78 = .ok (.iaload, 1) := by decide +kernel
theorem dX13_reckoned_79 : decode cX13_reckoned 79 = .ok (.goto 15, 3) := by decide +kernel
theorem dX13_reckoned_82 : decode cX13_reckoned 82 = .ok (.aload_n 0, 1) := by decide +kernel
theorem dX13_reckoned_83 : decode cX13_reckoned 83 = .ok (.getfield 195, 3) := by decide +kernel
theorem dX13_reckoned_86 : decode cX13_reckoned 86 = .ok (.aload_n 0, 1) := by decide +kernel
theorem dX13_reckoned_87 : decode cX13_reckoned 87 = .ok (.getfield 38, 3) := by decide +kernel
theorem dX13_reckoned_90 : decode cX13_reckoned 90 = .ok (.iload 5, 2) := by decide +kernel
theorem dX13_reckoned_92 : decode cX13_reckoned 92 = .ok (.iaload, 1) := by decide +kernel
theorem dX13_reckoned_93 : decode cX13_reckoned 93 = .ok (.iaload, 1) := by decide +kernel
theorem dX13_reckoned_94 : decode cX13_reckoned 94 = .ok (.iastore, 1) := by decide +kernel
theorem dX13_reckoned_95 : decode cX13_reckoned 95 = .ok (.iinc 3 1, 3) := by decide +kernel
theorem dX13_reckoned_98 : decode cX13_reckoned 98 = .ok (.goto 61, 3) := by decide +kernel
theorem dX13_reckoned_101 : decode cX13_reckoned 101 = .ok (.iload 6, 2) := by decide +kernel
theorem dX13_reckoned_103 : decode cX13_reckoned 103 = .ok (.bipush 11, 2) := by decide +kernel
theorem dX13_reckoned_105 : decode cX13_reckoned 105 = .ok (.if_icmp .ne 24, 3) := by decide +kernel
theorem dX13_reckoned_108 : decode cX13_reckoned 108 = .ok (.aload_n 0, 1) := by decide +kernel
theorem dX13_reckoned_109 : decode cX13_reckoned 109 = .ok (.getfield 198, 3) := by decide +kernel
theorem dX13_reckoned_112 : decode cX13_reckoned 112 = .ok (.iload_n 3, 1) := by decide +kernel
theorem dX13_reckoned_113 : decode cX13_reckoned 113 = .ok (.iconst 1, 1) := by decide +kernel
theorem dX13_reckoned_114 : decode cX13_reckoned 114 = .ok (.isub, 1) := by decide +kernel
theorem dX13_reckoned_115 : decode cX13_reckoned 115 = .ok (.iconst 1, 1) := by decide +kernel
theorem dX13_reckoned_116 : decode cX13_reckoned 116 = .ok (.aload_n 0, 1) := by decide +kernel
theorem dX13_reckoned_117 : decode cX13_reckoned 117 = .ok (.getfield 198, 3) := by decide +kernel
theorem dX13_reckoned_120 : decode cX13_reckoned 120 = .ok (.iload_n 3, 1) := by decide +kernel
theorem dX13_reckoned_121 : decode cX13_reckoned 121 = .ok (.iconst 1, 1) := by decide +kernel
theorem dX13_reckoned_122 : decode cX13_reckoned 122 = .ok (.isub, 1) := by decide +kernel
theorem dX13_reckoned_123 : decode cX13_reckoned 123 = .ok (.iaload, 1) := by decide +kernel
theorem dX13_reckoned_124 : decode cX13_reckoned 124 = .ok (.isub, 1) := by decide +kernel
theorem dX13_reckoned_125 : decode cX13_reckoned 125 = .ok (.iastore, 1) := by decide +kernel
theorem dX13_reckoned_126 : decode cX13_reckoned 126 = .ok (.goto 33, 3) := by decide +kernel
theorem dX13_reckoned_129 : decode cX13_reckoned 129 = .ok (.iinc 3 (-1), 3) := by decide +kernel
theorem dX13_reckoned_132 : decode cX13_reckoned 132 = .ok (.aload_n 0, 1) := by decide +kernel
theorem dX13_reckoned_133 : decode cX13_reckoned 133 = .ok (.getfield 198, 3) := by decide +kernel
theorem dX13_reckoned_136 : decode cX13_reckoned 136 = .ok (.iload_n 3, 1) := by decide +kernel
theorem dX13_reckoned_137 : decode cX13_reckoned 137 = .ok (.iconst 1, 1) := by decide +kernel
theorem dX13_reckoned_138 : decode cX13_reckoned 138 = .ok (.isub, 1) := by decide +kernel
theorem dX13_reckoned_139 : decode cX13_reckoned 139 = .ok (.iload 6, 2) := by decide +kernel
theorem dX13_reckoned_141 : decode cX13_reckoned 141 = .ok (.aload_n 0, 1) := by decide +kernel
theorem dX13_reckoned_142 : decode cX13_reckoned 142 = .ok (.getfield 198, 3) := by decide +kernel
theorem dX13_reckoned_145 : decode cX13_reckoned 145 = .ok (.iload_n 3, 1) := by decide +kernel
theorem dX13_reckoned_146 : decode cX13_reckoned 146 = .ok (.iconst 1, 1) := by decide +kernel
theorem dX13_reckoned_147 : decode cX13_reckoned 147 = .ok (.isub, 1) := by decide +kernel
theorem dX13_reckoned_148 : decode cX13_reckoned 148 = .ok (.iaload, 1) := by decide +kernel
theorem dX13_reckoned_149 : decode cX13_reckoned 149 = .ok (.aload_n 0, 1) := by decide +kernel
theorem dX13_reckoned_150 : decode cX13_reckoned 150 = .ok (.getfield 198, 3) := by decide +kernel
theorem dX13_reckoned_153 : decode cX13_reckoned 153 = .ok (.iload_n 3, 1) := by decide +kernel
theorem dX13_reckoned_154 : decode cX13_reckoned 154 = .ok (.iaload, 1) := by decide +kernel
theorem dX13_reckoned_155 : decode cX13_reckoned 155 = .ok (.invokestatic 390, 3) := by decide +kernel
theorem dX13_reckoned_158 : decode cX13_reckoned 158 = .ok (.iastore, 1) := by decide +kernel
theorem dX13_reckoned_159 : decode cX13_reckoned 159 = .ok (.iinc 5 1, 3) := by decide +kernel
theorem dX13_reckoned_162 : decode cX13_reckoned 162 = .ok (.goto (-122), 3) := by decide +kernel
theorem dX13_reckoned_165 : decode cX13_reckoned 165 = .ok (.aload_n 0, 1) := by decide +kernel
theorem dX13_reckoned_166 : decode cX13_reckoned 166 = .ok (.getfield 198, 3) := by decide +kernel
theorem dX13_reckoned_169 : decode cX13_reckoned 169 = .ok (.iconst 0, 1) := by decide +kernel
theorem dX13_reckoned_170 : decode cX13_reckoned 170 = .ok (.iaload, 1) := by decide +kernel
theorem dX13_reckoned_171 : decode cX13_reckoned 171 = .ok (.ireturn, 1) := by decide +kernel
theorem dX13_of_0 : decode cX13_of 0 = .ok (.iload_n 0, 1) := by decide +kernel
theorem dX13_of_1 : decode cX13_of 1 = .ok (.tableswitch 132 2 9 #[47, 56, 65, 74, 86, 97, 108, 119], 47) := by decide +kernel
theorem dX13_of_48 : decode cX13_of 48 = .ok (.iload_n 1, 1) := by decide +kernel
theorem dX13_of_49 : decode cX13_of 49 = .ok (.i2l, 1) := by decide +kernel
theorem dX13_of_50 : decode cX13_of 50 = .ok (.iload_n 2, 1) := by decide +kernel
theorem dX13_of_51 : decode cX13_of 51 = .ok (.i2l, 1) := by decide +kernel
theorem dX13_of_52 : decode cX13_of 52 = .ok (.ladd, 1) := by decide +kernel
theorem dX13_of_53 : decode cX13_of 53 = .ok (.invokestatic 393, 3) := by decide +kernel
theorem dX13_of_56 : decode cX13_of 56 = .ok (.ireturn, 1) := by decide +kernel
theorem dX13_of_57 : decode cX13_of 57 = .ok (.iload_n 1, 1) := by decide +kernel
theorem dX13_of_58 : decode cX13_of 58 = .ok (.i2l, 1) := by decide +kernel
theorem dX13_of_59 : decode cX13_of 59 = .ok (.iload_n 2, 1) := by decide +kernel
theorem dX13_of_60 : decode cX13_of 60 = .ok (.i2l, 1) := by decide +kernel
theorem dX13_of_61 : decode cX13_of 61 = .ok (.lsub, 1) := by decide +kernel
theorem dX13_of_62 : decode cX13_of 62 = .ok (.invokestatic 393, 3) := by decide +kernel
theorem dX13_of_65 : decode cX13_of 65 = .ok (.ireturn, 1) := by decide +kernel
theorem dX13_of_66 : decode cX13_of 66 = .ok (.iload_n 1, 1) := by decide +kernel
theorem dX13_of_67 : decode cX13_of 67 = .ok (.i2l, 1) := by decide +kernel
theorem dX13_of_68 : decode cX13_of 68 = .ok (.iload_n 2, 1) := by decide +kernel
theorem dX13_of_69 : decode cX13_of 69 = .ok (.i2l, 1) := by decide +kernel
theorem dX13_of_70 : decode cX13_of 70 = .ok (.lmul, 1) := by decide +kernel
theorem dX13_of_71 : decode cX13_of 71 = .ok (.invokestatic 393, 3) := by decide +kernel
theorem dX13_of_74 : decode cX13_of 74 = .ok (.ireturn, 1) := by decide +kernel
theorem dX13_of_75 : decode cX13_of 75 = .ok (.iload_n 2, 1) := by decide +kernel
theorem dX13_of_76 : decode cX13_of 76 = .ok (.ifCond .ne 7, 3) := by decide +kernel
theorem dX13_of_79 : decode cX13_of 79 = .ok (.iconst 0, 1) := by decide +kernel
theorem dX13_of_80 : decode cX13_of 80 = .ok (.goto 6, 3) := by decide +kernel
theorem dX13_of_83 : decode cX13_of 83 = .ok (.iload_n 1, 1) := by decide +kernel
theorem dX13_of_84 : decode cX13_of 84 = .ok (.iload_n 2, 1) := by decide +kernel
theorem dX13_of_85 : decode cX13_of 85 = .ok (.idiv, 1) := by decide +kernel
theorem dX13_of_86 : decode cX13_of 86 = .ok (.ireturn, 1) := by decide +kernel
theorem dX13_of_87 : decode cX13_of 87 = .ok (.iload_n 1, 1) := by decide +kernel
theorem dX13_of_88 : decode cX13_of 88 = .ok (.iload_n 2, 1) := by decide +kernel
theorem dX13_of_89 : decode cX13_of 89 = .ok (.if_icmp .ge 7, 3) := by decide +kernel
theorem dX13_of_92 : decode cX13_of 92 = .ok (.iconst 1, 1) := by decide +kernel
theorem dX13_of_93 : decode cX13_of 93 = .ok (.goto 4, 3) := by decide +kernel
theorem dX13_of_96 : decode cX13_of 96 = .ok (.iconst 0, 1) := by decide +kernel
theorem dX13_of_97 : decode cX13_of 97 = .ok (.ireturn, 1) := by decide +kernel
theorem dX13_of_98 : decode cX13_of 98 = .ok (.iload_n 1, 1) := by decide +kernel
theorem dX13_of_99 : decode cX13_of 99 = .ok (.iload_n 2, 1) := by decide +kernel
theorem dX13_of_100 : decode cX13_of 100 = .ok (.if_icmp .le 7, 3) := by decide +kernel
theorem dX13_of_103 : decode cX13_of 103 = .ok (.iconst 1, 1) := by decide +kernel
theorem dX13_of_104 : decode cX13_of 104 = .ok (.goto 4, 3) := by decide +kernel
theorem dX13_of_107 : decode cX13_of 107 = .ok (.iconst 0, 1) := by decide +kernel
theorem dX13_of_108 : decode cX13_of 108 = .ok (.ireturn, 1) := by decide +kernel
theorem dX13_of_109 : decode cX13_of 109 = .ok (.iload_n 1, 1) := by decide +kernel
theorem dX13_of_110 : decode cX13_of 110 = .ok (.iload_n 2, 1) := by decide +kernel
theorem dX13_of_111 : decode cX13_of 111 = .ok (.if_icmp .ne 7, 3) := by decide +kernel
theorem dX13_of_114 : decode cX13_of 114 = .ok (.iconst 1, 1) := by decide +kernel
theorem dX13_of_115 : decode cX13_of 115 = .ok (.goto 4, 3) := by decide +kernel
theorem dX13_of_118 : decode cX13_of 118 = .ok (.iconst 0, 1) := by decide +kernel
theorem dX13_of_119 : decode cX13_of 119 = .ok (.ireturn, 1) := by decide +kernel
theorem dX13_of_120 : decode cX13_of 120 = .ok (.iload_n 1, 1) := by decide +kernel
theorem dX13_of_121 : decode cX13_of 121 = .ok (.iload_n 2, 1) := by decide +kernel
theorem dX13_of_122 : decode cX13_of 122 = .ok (.iadd, 1) := by decide +kernel
theorem dX13_of_123 : decode cX13_of 123 = .ok (.iconst 2, 1) := by decide +kernel
theorem dX13_of_124 : decode cX13_of 124 = .ok (.if_icmp .ne 7, 3) := by decide +kernel
theorem dX13_of_127 : decode cX13_of 127 = .ok (.iconst 1, 1) := by decide +kernel
theorem dX13_of_128 : decode cX13_of 128 = .ok (.goto 4, 3) := by decide +kernel
theorem dX13_of_131 : decode cX13_of 131 = .ok (.iconst 0, 1) := by decide +kernel
theorem dX13_of_132 : decode cX13_of 132 = .ok (.ireturn, 1) := by decide +kernel
theorem dX13_of_133 : decode cX13_of 133 = .ok (.iload_n 1, 1) := by decide +kernel
theorem dX13_of_134 : decode cX13_of 134 = .ok (.iload_n 2, 1) := by decide +kernel
theorem dX13_of_135 : decode cX13_of 135 = .ok (.iadd, 1) := by decide +kernel
theorem dX13_of_136 : decode cX13_of 136 = .ok (.ifCond .le 7, 3) := by decide +kernel
theorem dX13_of_139 : decode cX13_of 139 = .ok (.iconst 1, 1) := by decide +kernel
theorem dX13_of_140 : decode cX13_of 140 = .ok (.goto 4, 3) := by decide +kernel
theorem dX13_of_143 : decode cX13_of 143 = .ok (.iconst 0, 1) := by decide +kernel
theorem dX13_of_144 : decode cX13_of 144 = .ok (.ireturn, 1) := by decide +kernel
theorem dX13_without_0 : decode cX13_without 0 = .ok (.iload_n 0, 1) := by decide +kernel
theorem dX13_without_1 : decode cX13_without 1 = .ok (.ifCond .eq 35, 3) := by decide +kernel
theorem dX13_without_4 : decode cX13_without 4 = .ok (.iload_n 0, 1) := by decide +kernel
theorem dX13_without_5 : decode cX13_without 5 = .ok (.iconst 1, 1) := by decide +kernel
theorem dX13_without_6 : decode cX13_without 6 = .ok (.if_icmp .eq 30, 3) := by decide +kernel
theorem dX13_without_9 : decode cX13_without 9 = .ok (.iload_n 0, 1) := by decide +kernel
theorem dX13_without_10 : decode cX13_without 10 = .ok (.iconst 2, 1) := by decide +kernel
theorem dX13_without_11 : decode cX13_without 11 = .ok (.if_icmp .eq 25, 3) := by decide +kernel
theorem dX13_without_14 : decode cX13_without 14 = .ok (.iload_n 0, 1) := by decide +kernel
theorem dX13_without_15 : decode cX13_without 15 = .ok (.iconst 3, 1) := by decide +kernel
theorem dX13_without_16 : decode cX13_without 16 = .ok (.if_icmp .eq 20, 3) := by decide +kernel
theorem dX13_without_19 : decode cX13_without 19 = .ok (.iload_n 0, 1) := by decide +kernel
theorem dX13_without_20 : decode cX13_without 20 = .ok (.iconst 5, 1) := by decide +kernel
theorem dX13_without_21 : decode cX13_without 21 = .ok (.if_icmp .lt 9, 3) := by decide +kernel
theorem dX13_without_24 : decode cX13_without 24 = .ok (.iload_n 0, 1) := by decide +kernel
theorem dX13_without_25 : decode cX13_without 25 = .ok (.bipush 8, 2) := by decide +kernel
theorem dX13_without_27 : decode cX13_without 27 = .ok (.if_icmp .lt 9, 3) := by decide +kernel
theorem dX13_without_30 : decode cX13_without 30 = .ok (.iload_n 0, 1) := by decide +kernel
theorem dX13_without_31 : decode cX13_without 31 = .ok (.bipush 11, 2) := by decide +kernel
theorem dX13_without_33 : decode cX13_without 33 = .ok (.if_icmp .lt 7, 3) := by decide +kernel
theorem dX13_without_36 : decode cX13_without 36 = .ok (.iconst 1, 1) := by decide +kernel
theorem dX13_without_37 : decode cX13_without 37 = .ok (.goto 15, 3) := by decide +kernel
theorem dX13_without_40 : decode cX13_without 40 = .ok (.iload_n 0, 1) := by decide +kernel
theorem dX13_without_41 : decode cX13_without 41 = .ok (.iconst 4, 1) := by decide +kernel
theorem dX13_without_42 : decode cX13_without 42 = .ok (.if_icmp .ne 7, 3) := by decide +kernel
theorem dX13_without_45 : decode cX13_without 45 = .ok (.iconst 0, 1) := by decide +kernel
theorem dX13_without_46 : decode cX13_without 46 = .ok (.goto 6, 3) := by decide +kernel
theorem dX13_without_49 : decode cX13_without 49 = .ok (.sipush 400, 3) := by decide +kernel
theorem dX13_without_52 : decode cX13_without 52 = .ok (.ireturn, 1) := by decide +kernel
theorem dX13_tells_0 : decode cX13_tells 0 = .ok (.aload_n 0, 1) := by decide +kernel
theorem dX13_tells_1 : decode cX13_tells 1 = .ok (.iload_n 1, 1) := by decide +kernel
theorem dX13_tells_2 : decode cX13_tells 2 = .ok (.iload_n 2, 1) := by decide +kernel
theorem dX13_tells_3 : decode cX13_tells 3 = .ok (.iload_n 3, 1) := by decide +kernel
theorem dX13_tells_4 : decode cX13_tells 4 = .ok (.invokevirtual 386, 3) := by decide +kernel
theorem dX13_tells_7 : decode cX13_tells 7 = .ok (.istore 4, 2) := by decide +kernel
theorem dX13_tells_9 : decode cX13_tells 9 = .ok (.iload 4, 2) := by decide +kernel
theorem dX13_tells_11 : decode cX13_tells 11 = .ok (.iconst (-1), 1) := by decide +kernel
theorem dX13_tells_12 : decode cX13_tells 12 = .ok (.if_icmp .ne 10, 3) := by decide +kernel
theorem dX13_tells_15 : decode cX13_tells 15 = .ok (.iload_n 1, 1) := by decide +kernel
theorem dX13_tells_16 : decode cX13_tells 16 = .ok (.invokestatic 397, 3) := by decide +kernel
theorem dX13_tells_19 : decode cX13_tells 19 = .ok (.goto 10, 3) := by decide +kernel
theorem dX13_tells_22 : decode cX13_tells 22 = .ok (.aload_n 0, 1) := by decide +kernel
theorem dX13_tells_23 : decode cX13_tells 23 = .ok (.iload 4, 2) := by decide +kernel
theorem dX13_tells_25 : decode cX13_tells 25 = .ok (.iload_n 1, 1) := by decide +kernel
theorem dX13_tells_26 : decode cX13_tells 26 = .ok (.invokevirtual 401, 3) := by decide +kernel
theorem dX13_tells_29 : decode cX13_tells 29 = .ok (.ireturn, 1) := by decide +kernel
theorem dX13_isSkipped_0 : decode cX13_isSkipped 0 = .ok (.iconst 0, 1) := by decide +kernel
theorem dX13_isSkipped_1 : decode cX13_isSkipped 1 = .ok (.istore 4, 2) := by decide +kernel
theorem dX13_isSkipped_3 : decode cX13_isSkipped 3 = .ok (.iload 4, 2) := by decide +kernel
theorem dX13_isSkipped_5 : decode cX13_isSkipped 5 = .ok (.aload_n 0, 1) := by decide +kernel
theorem dX13_isSkipped_6 : decode cX13_isSkipped 6 = .ok (.getfield 380, 3) := by decide +kernel
theorem dX13_isSkipped_9 : decode cX13_isSkipped 9 = .ok (.if_icmp .ge 154, 3) := by decide +kernel
theorem dX13_isSkipped_12 : decode cX13_isSkipped 12 = .ok (.aload_n 0, 1) := by decide +kernel
theorem dX13_isSkipped_13 : decode cX13_isSkipped 13 = .ok (.getfield 59, 3) := by decide +kernel
theorem dX13_isSkipped_16 : decode cX13_isSkipped 16 = .ok (.iload 4, 2) := by decide +kernel
theorem dX13_isSkipped_18 : decode cX13_isSkipped 18 = .ok (.iaload, 1) := by decide +kernel
theorem dX13_isSkipped_19 : decode cX13_isSkipped 19 = .ok (.iconst (-1), 1) := by decide +kernel
theorem dX13_isSkipped_20 : decode cX13_isSkipped 20 = .ok (.if_icmp .eq 17, 3) := by decide +kernel
theorem dX13_isSkipped_23 : decode cX13_isSkipped 23 = .ok (.aload_n 0, 1) := by decide +kernel
theorem dX13_isSkipped_24 : decode cX13_isSkipped 24 = .ok (.getfield 59, 3) := by decide +kernel
theorem dX13_isSkipped_27 : decode cX13_isSkipped 27 = .ok (.iload 4, 2) := by decide +kernel
theorem dX13_isSkipped_29 : decode cX13_isSkipped 29 = .ok (.iaload, 1) := by decide +kernel
theorem dX13_isSkipped_30 : decode cX13_isSkipped 30 = .ok (.iload_n 3, 1) := by decide +kernel
theorem dX13_isSkipped_31 : decode cX13_isSkipped 31 = .ok (.if_icmp .eq 6, 3) := by decide +kernel
theorem dX13_isSkipped_34 : decode cX13_isSkipped 34 = .ok (.goto 123, 3) := by decide +kernel
theorem dX13_isSkipped_37 : decode cX13_isSkipped 37 = .ok (.iconst 0, 1) := by decide +kernel
theorem dX13_isSkipped_38 : decode cX13_isSkipped 38 = .ok (.istore 5, 2) := by decide +kernel
theorem dX13_isSkipped_40 : decode cX13_isSkipped 40 = .ok (.iload 5, 2) := by decide +kernel
theorem dX13_isSkipped_42 : decode cX13_isSkipped 42 = .ok (.aload_n 0, 1) := by decide +kernel
theorem dX13_isSkipped_43 : decode cX13_isSkipped 43 = .ok (.getfield 47, 3) := by decide +kernel
theorem dX13_isSkipped_46 : decode cX13_isSkipped 46 = .ok (.aload_n 0, 1) := by decide +kernel
theorem dX13_isSkipped_47 : decode cX13_isSkipped 47 = .ok (.getfield 56, 3) := by decide +kernel
theorem dX13_isSkipped_50 : decode cX13_isSkipped 50 = .ok (.iload 4, 2) := by decide +kernel
theorem dX13_isSkipped_52 : decode cX13_isSkipped 52 = .ok (.iaload, 1) := by decide +kernel
theorem dX13_isSkipped_53 : decode cX13_isSkipped 53 = .ok (.iaload, 1) := by decide +kernel
theorem dX13_isSkipped_54 : decode cX13_isSkipped 54 = .ok (.if_icmp .ge 103, 3) := by decide +kernel
theorem dX13_isSkipped_57 : decode cX13_isSkipped 57 = .ok (.iconst 4, 1) := by decide +kernel
theorem dX13_isSkipped_58 : decode cX13_isSkipped 58 = .ok (.aload_n 0, 1) := by decide +kernel
theorem dX13_isSkipped_59 : decode cX13_isSkipped 59 = .ok (.getfield 56, 3) := by decide +kernel
theorem dX13_isSkipped_62 : decode cX13_isSkipped 62 = .ok (.iload 4, 2) := by decide +kernel
theorem dX13_isSkipped_64 : decode cX13_isSkipped 64 = .ok (.iaload, 1) := by decide +kernel
theorem dX13_isSkipped_65 : decode cX13_isSkipped 65 = .ok (.imul, 1) := by decide +kernel
theorem dX13_isSkipped_66 : decode cX13_isSkipped 66 = .ok (.iload 5, 2) := by decide +kernel
theorem dX13_isSkipped_68 : decode cX13_isSkipped 68 = .ok (.iadd, 1) := by decide +kernel
theorem dX13_isSkipped_69 : decode cX13_isSkipped 69 = .ok (.istore 6, 2) := by decide +kernel
theorem dX13_isSkipped_71 : decode cX13_isSkipped 71 = .ok (.aload_n 0, 1) := by decide +kernel
theorem dX13_isSkipped_72 : decode cX13_isSkipped 72 = .ok (.getfield 53, 3) := by decide +kernel
theorem dX13_isSkipped_75 : decode cX13_isSkipped 75 = .ok (.iload 6, 2) := by decide +kernel
theorem dX13_isSkipped_77 : decode cX13_isSkipped 77 = .ok (.iaload, 1) := by decide +kernel
theorem dX13_isSkipped_78 : decode cX13_isSkipped 78 = .ok (.iload_n 2, 1) := by decide +kernel
theorem dX13_isSkipped_79 : decode cX13_isSkipped 79 = .ok (.if_icmp .ne 7, 3) := by decide +kernel
theorem dX13_isSkipped_82 : decode cX13_isSkipped 82 = .ok (.iconst 1, 1) := by decide +kernel
theorem dX13_isSkipped_83 : decode cX13_isSkipped 83 = .ok (.goto 4, 3) := by decide +kernel
theorem dX13_isSkipped_86 : decode cX13_isSkipped 86 = .ok (.iconst 0, 1) := by decide +kernel
theorem dX13_isSkipped_87 : decode cX13_isSkipped 87 = .ok (.istore 7, 2) := by decide +kernel
theorem dX13_isSkipped_89 : decode cX13_isSkipped 89 = .ok (.iconst 0, 1) := by decide +kernel
theorem dX13_isSkipped_90 : decode cX13_isSkipped 90 = .ok (.istore 8, 2) := by decide +kernel
theorem dX13_isSkipped_92 : decode cX13_isSkipped 92 = .ok (.iload 8, 2) := by decide +kernel
theorem dX13_isSkipped_94 : decode cX13_isSkipped 94 = .ok (.iload_n 2, 1) := by decide +kernel
theorem dX13_isSkipped_95 : decode cX13_isSkipped 95 = .ok (.if_icmp .ge 49, 3) := by decide +kernel
theorem dX13_isSkipped_98 : decode cX13_isSkipped 98 = .ok (.iload 7, 2) := by decide +kernel
theorem dX13_isSkipped_100 : decode cX13_isSkipped 100 = .ok (.ifCond .eq 44, 3) := by decide +kernel
theorem dX13_isSkipped_103 : decode cX13_isSkipped 103 = .ok (.aload_n 0, 1) := by decide +kernel
theorem dX13_isSkipped_104 : decode cX13_isSkipped 104 = .ok (.getfield 50, 3) := by decide +kernel
theorem dX13_isSkipped_107 : decode cX13_isSkipped 107 = .ok (.bipush 8, 2) := by decide +kernel
theorem dX13_isSkipped_109 : decode cX13_isSkipped 109 = .ok (.iload 6, 2) := by decide +kernel
theorem dX13_isSkipped_111 : decode cX13_isSkipped 111 = .ok (.imul, 1) := by decide +kernel
theorem dX13_isSkipped_112 : decode cX13_isSkipped 112 = .ok (.iload 8, 2) := by decide +kernel
theorem dX13_isSkipped_114 : decode cX13_isSkipped 114 = .ok (.iadd, 1) := by decide +kernel
theorem dX13_isSkipped_115 : decode cX13_isSkipped 115 = .ok (.baload, 1) := by decide +kernel
theorem dX13_isSkipped_116 : decode cX13_isSkipped 116 = .ok (.aload_n 0, 1) := by decide +kernel
theorem dX13_isSkipped_117 : decode cX13_isSkipped 117 = .ok (.getfield 84, 3) := by decide +kernel
theorem dX13_isSkipped_120 : decode cX13_isSkipped 120 = .ok (.bipush 12, 2) := by decide +kernel
theorem dX13_isSkipped_122 : decode cX13_isSkipped 122 = .ok (.iload_n 1, 1) := by decide +kernel
theorem dX13_isSkipped_123 : decode cX13_isSkipped 123 = .ok (.imul, 1) := by decide +kernel
theorem dX13_isSkipped_124 : decode cX13_isSkipped 124 = .ok (.iload 8, 2) := by decide +kernel
theorem dX13_isSkipped_126 : decode cX13_isSkipped 126 = .ok (.iadd, 1) := by decide +kernel
theorem dX13_isSkipped_127 : decode cX13_isSkipped 127 = .ok (.baload, 1) := by decide +kernel
theorem dX13_isSkipped_128 : decode cX13_isSkipped 128 = .ok (.if_icmp .ne 7, 3) := by decide +kernel
theorem dX13_isSkipped_131 : decode cX13_isSkipped 131 = .ok (.iconst 1, 1) := by decide +kernel
theorem dX13_isSkipped_132 : decode cX13_isSkipped 132 = .ok (.goto 4, 3) := by decide +kernel
theorem dX13_isSkipped_135 : decode cX13_isSkipped 135 = .ok (.iconst 0, 1) := by decide +kernel
theorem dX13_isSkipped_136 : decode cX13_isSkipped 136 = .ok (.istore 7, 2) := by decide +kernel
theorem dX13_isSkipped_138 : decode cX13_isSkipped 138 = .ok (.iinc 8 1, 3) := by decide +kernel
theorem dX13_isSkipped_141 : decode cX13_isSkipped 141 = .ok (.goto (-49), 3) := by decide +kernel
theorem dX13_isSkipped_144 : decode cX13_isSkipped 144 = .ok (.iload 7, 2) := by decide +kernel
theorem dX13_isSkipped_146 : decode cX13_isSkipped 146 = .ok (.ifCond .eq 5, 3) := by decide +kernel
theorem dX13_isSkipped_149 : decode cX13_isSkipped 149 = .ok (.iconst 1, 1) := by decide +kernel
theorem dX13_isSkipped_150 : decode cX13_isSkipped 150 = .ok (.ireturn, 1) := by decide +kernel
theorem dX13_isSkipped_151 : decode cX13_isSkipped 151 = .ok (.iinc 5 1, 3) := by decide +kernel
theorem dX13_isSkipped_154 : decode cX13_isSkipped 154 = .ok (.goto (-114), 3) := by decide +kernel
theorem dX13_isSkipped_157 : decode cX13_isSkipped 157 = .ok (.iinc 4 1, 3) := by decide +kernel
theorem dX13_isSkipped_160 : decode cX13_isSkipped 160 = .ok (.goto (-157), 3) := by decide +kernel
theorem dX13_isSkipped_163 : decode cX13_isSkipped 163 = .ok (.iconst 0, 1) := by decide +kernel
theorem dX13_isSkipped_164 : decode cX13_isSkipped 164 = .ok (.ireturn, 1) := by decide +kernel
theorem dX13_key_0 : decode cX13_key 0 = .ok (.aload_n 0, 1) := by decide +kernel
theorem dX13_key_1 : decode cX13_key 1 = .ok (.iconst 0, 1) := by decide +kernel
theorem dX13_key_2 : decode cX13_key 2 = .ok (.iload_n 2, 1) := by decide +kernel
theorem dX13_key_3 : decode cX13_key 3 = .ok (.aload_n 0, 1) := by decide +kernel
theorem dX13_key_4 : decode cX13_key 4 = .ok (.getfield 383, 3) := by decide +kernel
theorem dX13_key_7 : decode cX13_key 7 = .ok (.invokevirtual 404, 3) := by decide +kernel
theorem dX13_key_10 : decode cX13_key 10 = .ok (.iconst 1, 1) := by decide +kernel
theorem dX13_key_11 : decode cX13_key 11 = .ok (.if_icmp .ne 7, 3) := by decide +kernel
theorem dX13_key_14 : decode cX13_key 14 = .ok (.iconst 1, 1) := by decide +kernel
theorem dX13_key_15 : decode cX13_key 15 = .ok (.goto 4, 3) := by decide +kernel
theorem dX13_key_18 : decode cX13_key 18 = .ok (.iconst 0, 1) := by decide +kernel
theorem dX13_key_19 : decode cX13_key 19 = .ok (.iload_n 3, 1) := by decide +kernel
theorem dX13_key_20 : decode cX13_key 20 = .ok (.iconst 3, 1) := by decide +kernel
theorem dX13_key_21 : decode cX13_key 21 = .ok (.if_icmp .ne 7, 3) := by decide +kernel
theorem dX13_key_24 : decode cX13_key 24 = .ok (.iconst 1, 1) := by decide +kernel
theorem dX13_key_25 : decode cX13_key 25 = .ok (.goto 4, 3) := by decide +kernel
theorem dX13_key_28 : decode cX13_key 28 = .ok (.iconst 0, 1) := by decide +kernel
theorem dX13_key_29 : decode cX13_key 29 = .ok (.if_icmp .eq 7, 3) := by decide +kernel
theorem dX13_key_32 : decode cX13_key 32 = .ok (.iconst 1, 1) := by decide +kernel
theorem dX13_key_33 : decode cX13_key 33 = .ok (.goto 4, 3) := by decide +kernel
theorem dX13_key_36 : decode cX13_key 36 = .ok (.iconst 0, 1) := by decide +kernel
theorem dX13_key_37 : decode cX13_key 37 = .ok (.istore 5, 2) := by decide +kernel
theorem dX13_key_39 : decode cX13_key 39 = .ok (.aload_n 0, 1) := by decide +kernel
theorem dX13_key_40 : decode cX13_key 40 = .ok (.iconst 1, 1) := by decide +kernel
theorem dX13_key_41 : decode cX13_key 41 = .ok (.iload_n 2, 1) := by decide +kernel
theorem dX13_key_42 : decode cX13_key 42 = .ok (.aload_n 0, 1) := by decide +kernel
theorem dX13_key_43 : decode cX13_key 43 = .ok (.getfield 383, 3) := by decide +kernel
theorem dX13_key_46 : decode cX13_key 46 = .ok (.invokevirtual 404, 3) := by decide +kernel
theorem dX13_key_49 : decode cX13_key 49 = .ok (.iconst 1, 1) := by decide +kernel
theorem dX13_key_50 : decode cX13_key 50 = .ok (.if_icmp .ne 7, 3) := by decide +kernel
theorem dX13_key_53 : decode cX13_key 53 = .ok (.iconst 1, 1) := by decide +kernel
theorem dX13_key_54 : decode cX13_key 54 = .ok (.goto 4, 3) := by decide +kernel
theorem dX13_key_57 : decode cX13_key 57 = .ok (.iconst 0, 1) := by decide +kernel
theorem dX13_key_58 : decode cX13_key 58 = .ok (.iload_n 3, 1) := by decide +kernel
theorem dX13_key_59 : decode cX13_key 59 = .ok (.iconst 2, 1) := by decide +kernel
theorem dX13_key_60 : decode cX13_key 60 = .ok (.if_icmp .ne 7, 3) := by decide +kernel
theorem dX13_key_63 : decode cX13_key 63 = .ok (.iconst 1, 1) := by decide +kernel
theorem dX13_key_64 : decode cX13_key 64 = .ok (.goto 4, 3) := by decide +kernel
theorem dX13_key_67 : decode cX13_key 67 = .ok (.iconst 0, 1) := by decide +kernel
theorem dX13_key_68 : decode cX13_key 68 = .ok (.if_icmp .eq 7, 3) := by decide +kernel
theorem dX13_key_71 : decode cX13_key 71 = .ok (.iconst 1, 1) := by decide +kernel
theorem dX13_key_72 : decode cX13_key 72 = .ok (.goto 4, 3) := by decide +kernel
theorem dX13_key_75 : decode cX13_key 75 = .ok (.iconst 0, 1) := by decide +kernel
theorem dX13_key_76 : decode cX13_key 76 = .ok (.istore 6, 2) := by decide +kernel
theorem dX13_key_78 : decode cX13_key 78 = .ok (.iconst 0, 1) := by decide +kernel
theorem dX13_key_79 : decode cX13_key 79 = .ok (.istore 7, 2) := by decide +kernel
theorem dX13_key_81 : decode cX13_key 81 = .ok (.iload 7, 2) := by decide +kernel
theorem dX13_key_83 : decode cX13_key 83 = .ok (.aload_n 0, 1) := by decide +kernel
theorem dX13_key_84 : decode cX13_key 84 = .ok (.getfield 87, 3) := by decide +kernel
theorem dX13_key_87 : decode cX13_key 87 = .ok (.iload_n 1, 1) := by decide +kernel
theorem dX13_key_88 : decode cX13_key 88 = .ok (.iaload, 1) := by decide +kernel
theorem dX13_key_89 : decode cX13_key 89 = .ok (.if_icmp .ge 26, 3) := by decide +kernel
theorem dX13_key_92 : decode cX13_key 92 = .ok (.aload_n 0, 1) := by decide +kernel
theorem dX13_key_93 : decode cX13_key 93 = .ok (.getfield 84, 3) := by decide +kernel
theorem dX13_key_96 : decode cX13_key 96 = .ok (.bipush 12, 2) := by decide +kernel
theorem dX13_key_98 : decode cX13_key 98 = .ok (.iload_n 1, 1) := by decide +kernel
theorem dX13_key_99 : decode cX13_key 99 = .ok (.imul, 1) := by decide +kernel
theorem dX13_key_100 : decode cX13_key 100 = .ok (.iload 7, 2) := by decide +kernel
theorem dX13_key_102 : decode cX13_key 102 = .ok (.iadd, 1) := by decide +kernel
theorem dX13_key_103 : decode cX13_key 103 = .ok (.baload, 1) := by decide +kernel
theorem dX13_key_104 : decode cX13_key 104 = .ok (.bipush 32, 2) := by decide +kernel
theorem dX13_key_106 : decode cX13_key 106 = .ok (.if_icmp .eq 9, 3) := by decide +kernel
theorem dX13_key_109 : decode cX13_key 109 = .ok (.iinc 7 1, 3) := by decide +kernel
theorem dX13_key_112 : decode cX13_key 112 = .ok (.goto (-31), 3) := by decide +kernel
theorem dX13_key_115 : decode cX13_key 115 = .ok (.iload_n 3, 1) := by decide +kernel
theorem dX13_key_116 : decode cX13_key 116 = .ok (.iconst 1, 1) := by decide +kernel
theorem dX13_key_117 : decode cX13_key 117 = .ok (.if_icmp .eq 29, 3) := by decide +kernel
theorem dX13_key_120 : decode cX13_key 120 = .ok (.iload 7, 2) := by decide +kernel
theorem dX13_key_122 : decode cX13_key 122 = .ok (.aload_n 0, 1) := by decide +kernel
theorem dX13_key_123 : decode cX13_key 123 = .ok (.getfield 87, 3) := by decide +kernel
theorem dX13_key_126 : decode cX13_key 126 = .ok (.iload_n 1, 1) := by decide +kernel
theorem dX13_key_127 : decode cX13_key 127 = .ok (.iaload, 1) := by decide +kernel
theorem dX13_key_128 : decode cX13_key 128 = .ok (.if_icmp .ge 18, 3) := by decide +kernel
theorem dX13_key_131 : decode cX13_key 131 = .ok (.aload_n 0, 1) := by decide +kernel
theorem dX13_key_132 : decode cX13_key 132 = .ok (.iload_n 1, 1) := by decide +kernel
theorem dX13_key_133 : decode cX13_key 133 = .ok (.iload 7, 2) := by decide +kernel
theorem dX13_key_135 : decode cX13_key 135 = .ok (.iload_n 2, 1) := by decide +kernel
theorem dX13_key_136 : decode cX13_key 136 = .ok (.invokevirtual 407, 3) := by decide +kernel
theorem dX13_key_139 : decode cX13_key 139 = .ok (.ifCond .eq 7, 3) := by decide +kernel
theorem dX13_key_142 : decode cX13_key 142 = .ok (.iconst 1, 1) := by decide +kernel
theorem dX13_key_143 : decode cX13_key 143 = .ok (.goto 4, 3) := by decide +kernel
theorem dX13_key_146 : decode cX13_key 146 = .ok (.iconst 0, 1) := by decide +kernel
theorem dX13_key_147 : decode cX13_key 147 = .ok (.istore 8, 2) := by decide +kernel
theorem dX13_key_149 : decode cX13_key 149 = .ok (.iload 8, 2) := by decide +kernel
theorem dX13_key_151 : decode cX13_key 151 = .ok (.ifCond .eq 10, 3) := by decide +kernel
theorem dX13_key_154 : decode cX13_key 154 = .ok (.iload 7, 2) := by decide +kernel
theorem dX13_key_156 : decode cX13_key 156 = .ok (.iconst 1, 1) := by decide +kernel
theorem dX13_key_157 : decode cX13_key 157 = .ok (.iadd, 1) := by decide +kernel
theorem dX13_key_158 : decode cX13_key 158 = .ok (.goto 4, 3) := by decide +kernel
theorem dX13_key_161 : decode cX13_key 161 = .ok (.iconst 0, 1) := by decide +kernel
theorem dX13_key_162 : decode cX13_key 162 = .ok (.istore 7, 2) := by decide +kernel
theorem dX13_key_164 : decode cX13_key 164 = .ok (.iconst 0, 1) := by decide +kernel
theorem dX13_key_165 : decode cX13_key 165 = .ok (.istore 9, 2) := by decide +kernel
theorem dX13_key_167 : decode cX13_key 167 = .ok (.iload 7, 2) := by decide +kernel
theorem dX13_key_169 : decode cX13_key 169 = .ok (.istore 10, 2) := by decide +kernel
theorem dX13_key_171 : decode cX13_key 171 = .ok (.iload 10, 2) := by decide +kernel
theorem dX13_key_173 : decode cX13_key 173 = .ok (.aload_n 0, 1) := by decide +kernel
theorem dX13_key_174 : decode cX13_key 174 = .ok (.getfield 87, 3) := by decide +kernel
theorem dX13_key_177 : decode cX13_key 177 = .ok (.iload_n 1, 1) := by decide +kernel
theorem dX13_key_178 : decode cX13_key 178 = .ok (.iaload, 1) := by decide +kernel
theorem dX13_key_179 : decode cX13_key 179 = .ok (.if_icmp .ge 102, 3) := by decide +kernel
theorem dX13_key_182 : decode cX13_key 182 = .ok (.aload_n 0, 1) := by decide +kernel
theorem dX13_key_183 : decode cX13_key 183 = .ok (.getfield 84, 3) := by decide +kernel
theorem dX13_key_186 : decode cX13_key 186 = .ok (.bipush 12, 2) := by decide +kernel
theorem dX13_key_188 : decode cX13_key 188 = .ok (.iload_n 1, 1) := by decide +kernel
theorem dX13_key_189 : decode cX13_key 189 = .ok (.imul, 1) := by decide +kernel
theorem dX13_key_190 : decode cX13_key 190 = .ok (.iload 10, 2) := by decide +kernel
theorem dX13_key_192 : decode cX13_key 192 = .ok (.iadd, 1) := by decide +kernel
theorem dX13_key_193 : decode cX13_key 193 = .ok (.baload, 1) := by decide +kernel
theorem dX13_key_194 : decode cX13_key 194 = .ok (.istore 11, 2) := by decide +kernel
theorem dX13_key_196 : decode cX13_key 196 = .ok (.iload 11, 2) := by decide +kernel
theorem dX13_key_198 : decode cX13_key 198 = .ok (.bipush 32, 2) := by decide +kernel
theorem dX13_key_200 : decode cX13_key 200 = .ok (.if_icmp .ne 11, 3) := by decide +kernel
theorem dX13_key_203 : decode cX13_key 203 = .ok (.iload 6, 2) := by decide +kernel
theorem dX13_key_205 : decode cX13_key 205 = .ok (.ifCond .ne 6, 3) := by decide +kernel
theorem dX13_key_208 : decode cX13_key 208 = .ok (.goto 67, 3) := by decide +kernel
theorem dX13_key_211 : decode cX13_key 211 = .ok (.aload 4, 2) := by decide +kernel
theorem dX13_key_213 : decode cX13_key 213 = .ok (.iload 9, 2) := by decide +kernel
theorem dX13_key_215 : decode cX13_key 215 = .ok (.iload 11, 2) := by decide +kernel
theorem dX13_key_217 : decode cX13_key 217 = .ok (.bipush 32, 2) := by decide +kernel
theorem dX13_key_219 : decode cX13_key 219 = .ok (.if_icmp .ne 7, 3) := by decide +kernel
theorem dX13_key_222 : decode cX13_key 222 = .ok (.iconst 0, 1) := by decide +kernel
theorem dX13_key_223 : decode cX13_key 223 = .ok (.goto 48, 3) := by decide +kernel
theorem dX13_key_226 : decode cX13_key 226 = .ok (.iload 11, 2) := by decide +kernel
theorem dX13_key_228 : decode cX13_key 228 = .ok (.invokestatic 292, 3) := by decide +kernel
theorem dX13_key_231 : decode cX13_key 231 = .ok (.ifCond .eq 23, 3) := by decide +kernel
theorem dX13_key_234 : decode cX13_key 234 = .ok (.iload 11, 2) := by decide +kernel
theorem dX13_key_236 : decode cX13_key 236 = .ok (.bipush 48, 2) := by decide +kernel
theorem dX13_key_238 : decode cX13_key 238 = .ok (.isub, 1) := by decide +kernel
theorem dX13_key_239 : decode cX13_key 239 = .ok (.iload 5, 2) := by decide +kernel
theorem dX13_key_241 : decode cX13_key 241 = .ok (.ifCond .eq 7, 3) := by decide +kernel
theorem dX13_key_244 : decode cX13_key 244 = .ok (.iconst 1, 1) := by decide +kernel
theorem dX13_key_245 : decode cX13_key 245 = .ok (.goto 5, 3) := by decide +kernel
theorem dX13_key_248 : decode cX13_key 248 = .ok (.bipush 27, 2) := by decide +kernel
theorem dX13_key_250 : decode cX13_key 250 = .ok (.iadd, 1) := by decide +kernel
theorem dX13_key_251 : decode cX13_key 251 = .ok (.goto 20, 3) := by decide +kernel
theorem dX13_key_254 : decode cX13_key 254 = .ok (.iload 11, 2) := by decide +kernel
theorem dX13_key_256 : decode cX13_key 256 = .ok (.bipush 97, 2) := by decide +kernel
theorem dX13_key_258 : decode cX13_key 258 = .ok (.isub, 1) := by decide +kernel
theorem dX13_key_259 : decode cX13_key 259 = .ok (.iload 5, 2) := by decide +kernel
theorem dX13_key_261 : decode cX13_key 261 = .ok (.ifCond .eq 8, 3) := by decide +kernel
theorem dX13_key_264 : decode cX13_key 264 = .ok (.bipush 11, 2) := by decide +kernel
theorem dX13_key_266 : decode cX13_key 266 = .ok (.goto 4, 3) := by decide +kernel
theorem dX13_key_269 : decode cX13_key 269 = .ok (.iconst 1, 1) := by decide +kernel
theorem dX13_key_270 : decode cX13_key 270 = .ok (.iadd, 1) := by decide +kernel
theorem dX13_key_271 : decode cX13_key 271 = .ok (.iastore, 1) := by decide +kernel
theorem dX13_key_272 : decode cX13_key 272 = .ok (.iinc 9 1, 3) := by decide +kernel
theorem dX13_key_275 : decode cX13_key 275 = .ok (.iinc 10 1, 3) := by decide +kernel
theorem dX13_key_278 : decode cX13_key 278 = .ok (.goto (-107), 3) := by decide +kernel
theorem dX13_key_281 : decode cX13_key 281 = .ok (.iload 9, 2) := by decide +kernel
theorem dX13_key_283 : decode cX13_key 283 = .ok (.ireturn, 1) := by decide +kernel
theorem dX13_compared_0 : decode cX13_compared 0 = .ok (.aload_n 0, 1) := by decide +kernel
theorem dX13_compared_1 : decode cX13_compared 1 = .ok (.iload_n 1, 1) := by decide +kernel
theorem dX13_compared_2 : decode cX13_compared 2 = .ok (.iload_n 3, 1) := by decide +kernel
theorem dX13_compared_3 : decode cX13_compared 3 = .ok (.iload 4, 2) := by decide +kernel
theorem dX13_compared_5 : decode cX13_compared 5 = .ok (.aload_n 0, 1) := by decide +kernel
theorem dX13_compared_6 : decode cX13_compared 6 = .ok (.getfield 201, 3) := by decide +kernel
theorem dX13_compared_9 : decode cX13_compared 9 = .ok (.invokevirtual 410, 3) := by decide +kernel
theorem dX13_compared_12 : decode cX13_compared 12 = .ok (.istore 5, 2) := by decide +kernel
theorem dX13_compared_14 : decode cX13_compared 14 = .ok (.aload_n 0, 1) := by decide +kernel
theorem dX13_compared_15 : decode cX13_compared 15 = .ok (.iload_n 2, 1) := by decide +kernel
theorem dX13_compared_16 : decode cX13_compared 16 = .ok (.iload_n 3, 1) := by decide +kernel
theorem dX13_compared_17 : decode cX13_compared 17 = .ok (.iload 4, 2) := by decide +kernel
theorem dX13_compared_19 : decode cX13_compared 19 = .ok (.aload_n 0, 1) := by decide +kernel
theorem dX13_compared_20 : decode cX13_compared 20 = .ok (.getfield 204, 3) := by decide +kernel
theorem dX13_compared_23 : decode cX13_compared 23 = .ok (.invokevirtual 410, 3) := by decide +kernel
theorem dX13_compared_26 : decode cX13_compared 26 = .ok (.istore 6, 2) := by decide +kernel
theorem dX13_compared_28 : decode cX13_compared 28 = .ok (.iconst 0, 1) := by decide +kernel
theorem dX13_compared_29 : decode cX13_compared 29 = .ok (.istore 7, 2) := by decide +kernel
theorem dX13_compared_31 : decode cX13_compared 31 = .ok (.iload 7, 2) := by decide +kernel
theorem dX13_compared_33 : decode cX13_compared 33 = .ok (.iload 5, 2) := by decide +kernel
theorem dX13_compared_35 : decode cX13_compared 35 = .ok (.if_icmp .ge 49, 3) := by decide +kernel
theorem dX13_compared_38 : decode cX13_compared 38 = .ok (.iload 7, 2) := by decide +kernel
theorem dX13_compared_40 : decode cX13_compared 40 = .ok (.iload 6, 2) := by decide +kernel
theorem dX13_compared_42 : decode cX13_compared 42 = .ok (.if_icmp .ge 42, 3) := by decide +kernel
theorem dX13_compared_45 : decode cX13_compared 45 = .ok (.aload_n 0, 1) := by decide +kernel
theorem dX13_compared_46 : decode cX13_compared 46 = .ok (.getfield 201, 3) := by decide +kernel
theorem dX13_compared_49 : decode cX13_compared 49 = .ok (.iload 7, 2) := by decide +kernel
theorem dX13_compared_51 : decode cX13_compared 51 = .ok (.iaload, 1) := by decide +kernel
theorem dX13_compared_52 : decode cX13_compared 52 = .ok (.aload_n 0, 1) := by decide +kernel
theorem dX13_compared_53 : decode cX13_compared 53 = .ok (.getfield 204, 3) := by decide +kernel
theorem dX13_compared_56 : decode cX13_compared 56 = .ok (.iload 7, 2) := by decide +kernel
theorem dX13_compared_58 : decode cX13_compared 58 = .ok (.iaload, 1) := by decide +kernel
theorem dX13_compared_59 : decode cX13_compared 59 = .ok (.if_icmp .eq 19, 3) := by decide +kernel
theorem dX13_compared_62 : decode cX13_compared 62 = .ok (.aload_n 0, 1) := by decide +kernel
theorem dX13_compared_63 : decode cX13_compared 63 = .ok (.getfield 201, 3) := by decide +kernel
theorem dX13_compared_66 : decode cX13_compared 66 = .ok (.iload 7, 2) := by decide +kernel
theorem dX13_compared_68 : decode cX13_compared 68 = .ok (.iaload, 1) := by decide +kernel
theorem dX13_compared_69 : decode cX13_compared 69 = .ok (.aload_n 0, 1) := by decide +kernel
theorem dX13_compared_70 : decode cX13_compared 70 = .ok (.getfield 204, 3) := by decide +kernel
theorem dX13_compared_73 : decode cX13_compared 73 = .ok (.iload 7, 2) := by decide +kernel
theorem dX13_compared_75 : decode cX13_compared 75 = .ok (.iaload, 1) := by decide +kernel
theorem dX13_compared_76 : decode cX13_compared 76 = .ok (.isub, 1) := by decide +kernel
theorem dX13_compared_77 : decode cX13_compared 77 = .ok (.ireturn, 1) := by decide +kernel
theorem dX13_compared_78 : decode cX13_compared 78 = .ok (.iinc 7 1, 3) := by decide +kernel
theorem dX13_compared_81 : decode cX13_compared 81 = .ok (.goto (-50), 3) := by decide +kernel
theorem dX13_compared_84 : decode cX13_compared 84 = .ok (.iload 5, 2) := by decide +kernel
theorem dX13_compared_86 : decode cX13_compared 86 = .ok (.iload 6, 2) := by decide +kernel
theorem dX13_compared_88 : decode cX13_compared 88 = .ok (.isub, 1) := by decide +kernel
theorem dX13_compared_89 : decode cX13_compared 89 = .ok (.ireturn, 1) := by decide +kernel
theorem dX13_isAhead_0 : decode cX13_isAhead 0 = .ok (.aload_n 0, 1) := by decide +kernel
theorem dX13_isAhead_1 : decode cX13_isAhead 1 = .ok (.iload_n 1, 1) := by decide +kernel
theorem dX13_isAhead_2 : decode cX13_isAhead 2 = .ok (.iload_n 2, 1) := by decide +kernel
theorem dX13_isAhead_3 : decode cX13_isAhead 3 = .ok (.iload_n 3, 1) := by decide +kernel
theorem dX13_isAhead_4 : decode cX13_isAhead 4 = .ok (.iload 4, 2) := by decide +kernel
theorem dX13_isAhead_6 : decode cX13_isAhead 6 = .ok (.invokevirtual 414, 3) := by decide +kernel
theorem dX13_isAhead_9 : decode cX13_isAhead 9 = .ok (.istore 5, 2) := by decide +kernel
theorem dX13_isAhead_11 : decode cX13_isAhead 11 = .ok (.iload 5, 2) := by decide +kernel
theorem dX13_isAhead_13 : decode cX13_isAhead 13 = .ok (.ifCond .lt 13, 3) := by decide +kernel
theorem dX13_isAhead_16 : decode cX13_isAhead 16 = .ok (.iload 5, 2) := by decide +kernel
theorem dX13_isAhead_18 : decode cX13_isAhead 18 = .ok (.ifCond .ne 12, 3) := by decide +kernel
theorem dX13_isAhead_21 : decode cX13_isAhead 21 = .ok (.iload_n 1, 1) := by decide +kernel
theorem dX13_isAhead_22 : decode cX13_isAhead 22 = .ok (.iload_n 2, 1) := by decide +kernel
theorem dX13_isAhead_23 : decode cX13_isAhead 23 = .ok (.if_icmp .ge 7, 3) := by decide +kernel
theorem dX13_isAhead_26 : decode cX13_isAhead 26 = .ok (.iconst 1, 1) := by decide +kernel
theorem dX13_isAhead_27 : decode cX13_isAhead 27 = .ok (.goto 4, 3) := by decide +kernel
theorem dX13_isAhead_30 : decode cX13_isAhead 30 = .ok (.iconst 0, 1) := by decide +kernel
theorem dX13_isAhead_31 : decode cX13_isAhead 31 = .ok (.ireturn, 1) := by decide +kernel
theorem dX13_isEntry_0 : decode cX13_isEntry 0 = .ok (.iload_n 1, 1) := by decide +kernel
theorem dX13_isEntry_1 : decode cX13_isEntry 1 = .ok (.iconst 0, 1) := by decide +kernel
theorem dX13_isEntry_2 : decode cX13_isEntry 2 = .ok (.aload_n 0, 1) := by decide +kernel
theorem dX13_isEntry_3 : decode cX13_isEntry 3 = .ok (.getfield 418, 3) := by decide +kernel
theorem dX13_isEntry_6 : decode cX13_isEntry 6 = .ok (.iconst 1, 1) := by decide +kernel
theorem dX13_isEntry_7 : decode cX13_isEntry 7 = .ok (.isub, 1) := by decide +kernel
theorem dX13_isEntry_8 : decode cX13_isEntry 8 = .ok (.invokestatic 256, 3) := by decide +kernel
theorem dX13_isEntry_11 : decode cX13_isEntry 11 = .ok (.ireturn, 1) := by decide +kernel
theorem dX13_isArticle_0 : decode cX13_isArticle 0 = .ok (.aload_n 0, 1) := by decide +kernel
theorem dX13_isArticle_1 : decode cX13_isArticle 1 = .ok (.iload_n 1, 1) := by decide +kernel
theorem dX13_isArticle_2 : decode cX13_isArticle 2 = .ok (.invokevirtual 421, 3) := by decide +kernel
theorem dX13_isArticle_5 : decode cX13_isArticle 5 = .ok (.ifCond .eq 16, 3) := by decide +kernel
theorem dX13_isArticle_8 : decode cX13_isArticle 8 = .ok (.aload_n 0, 1) := by decide +kernel
theorem dX13_isArticle_9 : decode cX13_isArticle 9 = .ok (.getfield 90, 3) := by decide +kernel
theorem dX13_isArticle_12 : decode cX13_isArticle 12 = .ok (.iload_n 1, 1) := by decide +kernel
theorem dX13_isArticle_13 : decode cX13_isArticle 13 = .ok (.iaload, 1) := by decide +kernel
theorem dX13_isArticle_14 : decode cX13_isArticle 14 = .ok (.ifCond .ne 7, 3) := by decide +kernel
theorem dX13_isArticle_17 : decode cX13_isArticle 17 = .ok (.iconst 1, 1) := by decide +kernel
theorem dX13_isArticle_18 : decode cX13_isArticle 18 = .ok (.goto 4, 3) := by decide +kernel
theorem dX13_isArticle_21 : decode cX13_isArticle 21 = .ok (.iconst 0, 1) := by decide +kernel
theorem dX13_isArticle_22 : decode cX13_isArticle 22 = .ok (.ireturn, 1) := by decide +kernel
theorem dX13_go_0 : decode cX13_go 0 = .ok (.iload_n 1, 1) := by decide +kernel
theorem dX13_go_1 : decode cX13_go 1 = .ok (.iconst 0, 1) := by decide +kernel
theorem dX13_go_2 : decode cX13_go 2 = .ok (.sipush 300, 3) := by decide +kernel
theorem dX13_go_5 : decode cX13_go 5 = .ok (.invokestatic 256, 3) := by decide +kernel
theorem dX13_go_8 : decode cX13_go 8 = .ok (.ifCond .ne 5, 3) := by decide +kernel
theorem dX13_go_11 : decode cX13_go 11 = .ok (.iconst (-1), 1) := by decide +kernel
theorem dX13_go_12 : decode cX13_go 12 = .ok (.ireturn, 1) := by decide +kernel
theorem dX13_go_13 : decode cX13_go 13 = .ok (.aload_n 0, 1) := by decide +kernel
theorem dX13_go_14 : decode cX13_go 14 = .ok (.aload_n 0, 1) := by decide +kernel
theorem dX13_go_15 : decode cX13_go 15 = .ok (.getfield 383, 3) := by decide +kernel
theorem dX13_go_18 : decode cX13_go 18 = .ok (.iload_n 1, 1) := by decide +kernel
theorem dX13_go_19 : decode cX13_go 19 = .ok (.iadd, 1) := by decide +kernel
theorem dX13_go_20 : decode cX13_go 20 = .ok (.sipush 2000, 3) := by decide +kernel
theorem dX13_go_23 : decode cX13_go 23 = .ok (.if_icmp .le 9, 3) := by decide +kernel
theorem dX13_go_26 : decode cX13_go 26 = .ok (.sipush 2000, 3) := by decide +kernel
theorem dX13_go_29 : decode cX13_go 29 = .ok (.goto 9, 3) := by decide +kernel
theorem dX13_go_32 : decode cX13_go 32 = .ok (.aload_n 0, 1) := by decide +kernel
theorem dX13_go_33 : decode cX13_go 33 = .ok (.getfield 383, 3) := by decide +kernel
theorem dX13_go_36 : decode cX13_go 36 = .ok (.iload_n 1, 1) := by decide +kernel
theorem dX13_go_37 : decode cX13_go 37 = .ok (.iadd, 1) := by decide +kernel
theorem dX13_go_38 : decode cX13_go 38 = .ok (.putfield 383, 3) := by decide +kernel
theorem dX13_go_41 : decode cX13_go 41 = .ok (.aload_n 0, 1) := by decide +kernel
theorem dX13_go_42 : decode cX13_go 42 = .ok (.getfield 383, 3) := by decide +kernel
theorem dX13_go_45 : decode cX13_go 45 = .ok (.ireturn, 1) := by decide +kernel
theorem dX13_bound_0 : decode cX13_bound 0 = .ok (.iload_n 1, 1) := by decide +kernel
theorem dX13_bound_1 : decode cX13_bound 1 = .ok (.iconst 0, 1) := by decide +kernel
theorem dX13_bound_2 : decode cX13_bound 2 = .ok (.iconst 4, 1) := by decide +kernel
theorem dX13_bound_3 : decode cX13_bound 3 = .ok (.invokestatic 256, 3) := by decide +kernel
theorem dX13_bound_6 : decode cX13_bound 6 = .ok (.ifCond .eq 44, 3) := by decide +kernel
theorem dX13_bound_9 : decode cX13_bound 9 = .ok (.iload_n 2, 1) := by decide +kernel
theorem dX13_bound_10 : decode cX13_bound 10 = .ok (.iload_n 1, 1) := by decide +kernel
theorem dX13_bound_11 : decode cX13_bound 11 = .ok (.ifCond .ne 7, 3) := by decide +kernel
theorem dX13_bound_14 : decode cX13_bound 14 = .ok (.iconst 0, 1) := by decide +kernel
theorem dX13_bound_15 : decode cX13_bound 15 = .ok (.goto 11, 3) := by decide +kernel
theorem dX13_bound_18 : decode cX13_bound 18 = .ok (.aload_n 0, 1) := by decide +kernel
theorem dX13_bound_19 : decode cX13_bound 19 = .ok (.getfield 65, 3) := by decide +kernel
theorem dX13_bound_22 : decode cX13_bound 22 = .ok (.iload_n 1, 1) := by decide +kernel
theorem dX13_bound_23 : decode cX13_bound 23 = .ok (.iconst 1, 1) := by decide +kernel
theorem dX13_bound_24 : decode cX13_bound 24 = .ok (.isub, 1) := by decide +kernel
theorem dX13_bound_25 : decode cX13_bound 25 = .ok (.iaload, 1) := by decide +kernel
theorem dX13_bound_26 : decode cX13_bound 26 = .ok (.iload_n 1, 1) := by decide +kernel
theorem dX13_bound_27 : decode cX13_bound 27 = .ok (.iconst 4, 1) := by decide +kernel
theorem dX13_bound_28 : decode cX13_bound 28 = .ok (.if_icmp .ne 8, 3) := by decide +kernel
theorem dX13_bound_31 : decode cX13_bound 31 = .ok (.bipush 25, 2) := by decide +kernel
theorem dX13_bound_33 : decode cX13_bound 33 = .ok (.goto 11, 3) := by decide +kernel
theorem dX13_bound_36 : decode cX13_bound 36 = .ok (.aload_n 0, 1) := by decide +kernel
theorem dX13_bound_37 : decode cX13_bound 37 = .ok (.getfield 65, 3) := by decide +kernel
theorem dX13_bound_40 : decode cX13_bound 40 = .ok (.iload_n 1, 1) := by decide +kernel
theorem dX13_bound_41 : decode cX13_bound 41 = .ok (.iconst 1, 1) := by decide +kernel
theorem dX13_bound_42 : decode cX13_bound 42 = .ok (.iadd, 1) := by decide +kernel
theorem dX13_bound_43 : decode cX13_bound 43 = .ok (.iaload, 1) := by decide +kernel
theorem dX13_bound_44 : decode cX13_bound 44 = .ok (.invokestatic 256, 3) := by decide +kernel
theorem dX13_bound_47 : decode cX13_bound 47 = .ok (.ifCond .ne 5, 3) := by decide +kernel
theorem dX13_bound_50 : decode cX13_bound 50 = .ok (.iconst 0, 1) := by decide +kernel
theorem dX13_bound_51 : decode cX13_bound 51 = .ok (.ireturn, 1) := by decide +kernel
theorem dX13_bound_52 : decode cX13_bound 52 = .ok (.iconst 0, 1) := by decide +kernel
theorem dX13_bound_53 : decode cX13_bound 53 = .ok (.istore_n 3, 1) := by decide +kernel
theorem dX13_bound_54 : decode cX13_bound 54 = .ok (.iload_n 3, 1) := by decide +kernel
theorem dX13_bound_55 : decode cX13_bound 55 = .ok (.bipush 6, 2) := by decide +kernel
theorem dX13_bound_57 : decode cX13_bound 57 = .ok (.if_icmp .ge 20, 3) := by decide +kernel
theorem dX13_bound_60 : decode cX13_bound 60 = .ok (.aload_n 0, 1) := by decide +kernel
theorem dX13_bound_61 : decode cX13_bound 61 = .ok (.getfield 68, 3) := by decide +kernel
theorem dX13_bound_64 : decode cX13_bound 64 = .ok (.iload_n 3, 1) := by decide +kernel
theorem dX13_bound_65 : decode cX13_bound 65 = .ok (.baload, 1) := by decide +kernel
theorem dX13_bound_66 : decode cX13_bound 66 = .ok (.ifCond .eq 5, 3) := by decide +kernel
theorem dX13_bound_69 : decode cX13_bound 69 = .ok (.iconst 0, 1) := by decide +kernel
theorem dX13_bound_70 : decode cX13_bound 70 = .ok (.ireturn, 1) := by decide +kernel
theorem dX13_bound_71 : decode cX13_bound 71 = .ok (.iinc 3 1, 3) := by decide +kernel
theorem dX13_bound_74 : decode cX13_bound 74 = .ok (.goto (-20), 3) := by decide +kernel
theorem dX13_bound_77 : decode cX13_bound 77 = .ok (.aload_n 0, 1) := by decide +kernel
theorem dX13_bound_78 : decode cX13_bound 78 = .ok (.getfield 65, 3) := by decide +kernel
theorem dX13_bound_81 : decode cX13_bound 81 = .ok (.iload_n 1, 1) := by decide +kernel
theorem dX13_bound_82 : decode cX13_bound 82 = .ok (.iload_n 2, 1) := by decide +kernel
theorem dX13_bound_83 : decode cX13_bound 83 = .ok (.iastore, 1) := by decide +kernel
theorem dX13_bound_84 : decode cX13_bound 84 = .ok (.iconst 1, 1) := by decide +kernel
theorem dX13_bound_85 : decode cX13_bound 85 = .ok (.ireturn, 1) := by decide +kernel
theorem dX13_headingOf_0 : decode cX13_headingOf 0 = .ok (.iconst 0, 1) := by decide +kernel
theorem dX13_headingOf_1 : decode cX13_headingOf 1 = .ok (.istore 4, 2) := by decide +kernel
theorem dX13_headingOf_3 : decode cX13_headingOf 3 = .ok (.iconst 0, 1) := by decide +kernel
theorem dX13_headingOf_4 : decode cX13_headingOf 4 = .ok (.istore 5, 2) := by decide +kernel
theorem dX13_headingOf_6 : decode cX13_headingOf 6 = .ok (.iconst 0, 1) := by decide +kernel
theorem dX13_headingOf_7 : decode cX13_headingOf 7 = .ok (.istore 6, 2) := by decide +kernel
theorem dX13_headingOf_9 : decode cX13_headingOf 9 = .ok (.iload 6, 2) := by decide +kernel
theorem dX13_headingOf_11 : decode cX13_headingOf 11 = .ok (.bipush 12, 2) := by decide +kernel
theorem dX13_headingOf_13 : decode cX13_headingOf 13 = .ok (.if_icmp .ge 133, 3) := by decide +kernel
theorem dX13_headingOf_16 : decode cX13_headingOf 16 = .ok (.iload 6, 2) := by decide +kernel
theorem dX13_headingOf_18 : decode cX13_headingOf 18 = .ok (.iconst 4, 1) := by decide +kernel
theorem dX13_headingOf_19 : decode cX13_headingOf 19 = .ok (.if_icmp .ge 7, 3) := by decide +kernel
theorem dX13_headingOf_22 : decode cX13_headingOf 22 = .ok (.iload_n 1, 1) := by decide +kernel
theorem dX13_headingOf_23 : decode cX13_headingOf 23 = .ok (.goto 15, 3) := by decide +kernel
theorem dX13_headingOf_26 : decode cX13_headingOf 26 = .ok (.iload 6, 2) := by decide +kernel
theorem dX13_headingOf_28 : decode cX13_headingOf 28 = .ok (.bipush 8, 2) := by decide +kernel
theorem dX13_headingOf_30 : decode cX13_headingOf 30 = .ok (.if_icmp .ge 7, 3) := by decide +kernel
theorem dX13_headingOf_33 : decode cX13_headingOf 33 = .ok (.iload_n 2, 1) := by decide +kernel
theorem dX13_headingOf_34 : decode cX13_headingOf 34 = .ok (.goto 4, 3) := by decide +kernel
theorem dX13_headingOf_37 : decode cX13_headingOf 37 = .ok (.iload_n 3, 1) := by decide +kernel
theorem dX13_headingOf_38 : decode cX13_headingOf 38 = .ok (.bipush 24, 2) := by decide +kernel
theorem dX13_headingOf_40 : decode cX13_headingOf 40 = .ok (.bipush 8, 2) := by decide +kernel
theorem dX13_headingOf_42 : decode cX13_headingOf 42 = .ok (.iload 6, 2) := by decide +kernel
theorem dX13_headingOf_44 : decode cX13_headingOf 44 = .ok (.iconst 4, 1) := by decide +kernel
theorem dX13_headingOf_45 : decode cX13_headingOf 45 = .ok (.irem, 1) := by decide +kernel
theorem dX13_headingOf_46 : decode cX13_headingOf 46 = .ok (.imul, 1) := by decide +kernel
theorem dX13_headingOf_47 : decode cX13_headingOf 47 = .ok (.isub, 1) := by decide +kernel
theorem dX13_headingOf_48 : decode cX13_headingOf 48 = .ok (.ishr, 1) := by decide +kernel
theorem dX13_headingOf_49 : decode cX13_headingOf 49 = .ok (.istore 7, 2) := by decide +kernel
theorem dX13_headingOf_51 : decode cX13_headingOf 51 = .ok (.aload_n 0, 1) := by decide +kernel
theorem dX13_headingOf_52 : decode cX13_headingOf 52 = .ok (.getfield 207, 3) := by decide +kernel
theorem dX13_headingOf_55 : decode cX13_headingOf 55 = .ok (.iload 6, 2) := by decide +kernel
theorem dX13_headingOf_57 : decode cX13_headingOf 57 = .ok (.iload 7, 2) := by decide +kernel
theorem dX13_headingOf_59 : decode cX13_headingOf 59 = .ok (.i2b, 1) := by decide +kernel
theorem dX13_headingOf_60 : decode cX13_headingOf 60 = .ok (.bastore, 1) := by decide +kernel
theorem dX13_headingOf_61 : decode cX13_headingOf 61 = .ok (.aload_n 0, 1) := by decide +kernel
theorem dX13_headingOf_62 : decode cX13_headingOf 62 = .ok (.getfield 207, 3) := by decide +kernel
theorem dX13_headingOf_65 : decode cX13_headingOf 65 = .ok (.iload 6, 2) := by decide +kernel
theorem dX13_headingOf_67 : decode cX13_headingOf 67 = .ok (.baload, 1) := by decide +kernel
theorem dX13_headingOf_68 : decode cX13_headingOf 68 = .ok (.istore 8, 2) := by decide +kernel
theorem dX13_headingOf_70 : decode cX13_headingOf 70 = .ok (.iload 8, 2) := by decide +kernel
theorem dX13_headingOf_72 : decode cX13_headingOf 72 = .ok (.ifCond .ne 9, 3) := by decide +kernel
theorem dX13_headingOf_75 : decode cX13_headingOf 75 = .ok (.iconst 1, 1) := by decide +kernel
theorem dX13_headingOf_76 : decode cX13_headingOf 76 = .ok (.istore 5, 2) := by decide +kernel
theorem dX13_headingOf_78 : decode cX13_headingOf 78 = .ok (.goto 62, 3) := by decide +kernel
theorem dX13_headingOf_81 : decode cX13_headingOf 81 = .ok (.iload 5, 2) := by decide +kernel
theorem dX13_headingOf_83 : decode cX13_headingOf 83 = .ok (.ifCond .ne 52, 3) := by decide +kernel
theorem dX13_headingOf_86 : decode cX13_headingOf 86 = .ok (.iload 8, 2) := by decide +kernel
theorem dX13_headingOf_88 : decode cX13_headingOf 88 = .ok (.bipush 32, 2) := by decide +kernel
theorem dX13_headingOf_90 : decode cX13_headingOf 90 = .ok (.if_icmp .eq 19, 3) := by decide +kernel
theorem dX13_headingOf_93 : decode cX13_headingOf 93 = .ok (.iload 8, 2) := by decide +kernel
theorem dX13_headingOf_95 : decode cX13_headingOf 95 = .ok (.invokestatic 284, 3) := by decide +kernel
theorem dX13_headingOf_98 : decode cX13_headingOf 98 = .ok (.ifCond .ne 11, 3) := by decide +kernel
theorem dX13_headingOf_101 : decode cX13_headingOf 101 = .ok (.iload 8, 2) := by decide +kernel
theorem dX13_headingOf_103 : decode cX13_headingOf 103 = .ok (.invokestatic 292, 3) := by decide +kernel
theorem dX13_headingOf_106 : decode cX13_headingOf 106 = .ok (.ifCond .eq 29, 3) := by decide +kernel
theorem dX13_headingOf_109 : decode cX13_headingOf 109 = .ok (.iload 8, 2) := by decide +kernel
theorem dX13_headingOf_111 : decode cX13_headingOf 111 = .ok (.bipush 32, 2) := by decide +kernel
theorem dX13_headingOf_113 : decode cX13_headingOf 113 = .ok (.if_icmp .ne 24, 3) := by decide +kernel
theorem dX13_headingOf_116 : decode cX13_headingOf 116 = .ok (.iload 6, 2) := by decide +kernel
theorem dX13_headingOf_118 : decode cX13_headingOf 118 = .ok (.ifCond .eq 17, 3) := by decide +kernel
theorem dX13_headingOf_121 : decode cX13_headingOf 121 = .ok (.aload_n 0, 1) := by decide +kernel
theorem dX13_headingOf_122 : decode cX13_headingOf 122 = .ok (.getfield 207, 3) := by decide +kernel
theorem dX13_headingOf_125 : decode cX13_headingOf 125 = .ok (.iload 6, 2) := by decide +kernel
theorem dX13_headingOf_127 : decode cX13_headingOf 127 = .ok (.iconst 1, 1) := by decide +kernel
theorem dX13_headingOf_128 : decode cX13_headingOf 128 = .ok (.isub, 1) := by decide +kernel
theorem dX13_headingOf_129 : decode cX13_headingOf 129 = .ok (.baload, 1) := by decide +kernel
theorem dX13_headingOf_130 : decode cX13_headingOf 130 = .ok (.bipush 32, 2) := by decide +kernel
theorem dX13_headingOf_132 : decode cX13_headingOf 132 = .ok (.if_icmp .ne 5, 3) := by decide +kernel
theorem dX13_headingOf_135 : decode cX13_headingOf 135 = .ok (.iconst 0, 1) := by decide +kernel
theorem dX13_headingOf_136 : decode cX13_headingOf 136 = .ok (.ireturn, 1) := by decide +kernel
theorem dX13_headingOf_137 : decode cX13_headingOf 137 = .ok (.iinc 4 1, 3) := by decide +kernel
theorem dX13_headingOf_140 : decode cX13_headingOf 140 = .ok (.iinc 6 1, 3) := by decide +kernel
theorem dX13_headingOf_143 : decode cX13_headingOf 143 = .ok (.goto (-134), 3) := by decide +kernel
theorem dX13_headingOf_146 : decode cX13_headingOf 146 = .ok (.iload 4, 2) := by decide +kernel
theorem dX13_headingOf_148 : decode cX13_headingOf 148 = .ok (.ifCond .le 21, 3) := by decide +kernel
theorem dX13_headingOf_151 : decode cX13_headingOf 151 = .ok (.aload_n 0, 1) := by decide +kernel
theorem dX13_headingOf_152 : decode cX13_headingOf 152 = .ok (.getfield 207, 3) := by decide +kernel
theorem dX13_headingOf_155 : decode cX13_headingOf 155 = .ok (.iload 4, 2) := by decide +kernel
theorem dX13_headingOf_157 : decode cX13_headingOf 157 = .ok (.iconst 1, 1) := by decide +kernel
theorem dX13_headingOf_158 : decode cX13_headingOf 158 = .ok (.isub, 1) := by decide +kernel
theorem dX13_headingOf_159 : decode cX13_headingOf 159 = .ok (.baload, 1) := by decide +kernel
theorem dX13_headingOf_160 : decode cX13_headingOf 160 = .ok (.bipush 32, 2) := by decide +kernel
theorem dX13_headingOf_162 : decode cX13_headingOf 162 = .ok (.if_icmp .ne 7, 3) := by decide +kernel
theorem dX13_headingOf_165 : decode cX13_headingOf 165 = .ok (.iconst 0, 1) := by decide +kernel
theorem dX13_headingOf_166 : decode cX13_headingOf 166 = .ok (.goto 5, 3) := by decide +kernel
theorem dX13_headingOf_169 : decode cX13_headingOf 169 = .ok (.iload 4, 2) := by decide +kernel
theorem dX13_headingOf_171 : decode cX13_headingOf 171 = .ok (.ireturn, 1) := by decide +kernel
theorem dX13_newEntry_0 : decode cX13_newEntry 0 = .ok (.aload_n 0, 1) := by decide +kernel
theorem dX13_newEntry_1 : decode cX13_newEntry 1 = .ok (.getfield 418, 3) := by decide +kernel
theorem dX13_newEntry_4 : decode cX13_newEntry 4 = .ok (.bipush 60, 2) := by decide +kernel
theorem dX13_newEntry_6 : decode cX13_newEntry 6 = .ok (.if_icmp .ne 5, 3) := by decide +kernel
theorem dX13_newEntry_9 : decode cX13_newEntry 9 = .ok (.iconst (-1), 1) := by decide +kernel
theorem dX13_newEntry_10 : decode cX13_newEntry 10 = .ok (.ireturn, 1) := by decide +kernel
theorem dX13_newEntry_11 : decode cX13_newEntry 11 = .ok (.iconst 0, 1) := by decide +kernel
theorem dX13_newEntry_12 : decode cX13_newEntry 12 = .ok (.istore_n 3, 1) := by decide +kernel
theorem dX13_newEntry_13 : decode cX13_newEntry 13 = .ok (.iload_n 3, 1) := by decide +kernel
theorem dX13_newEntry_14 : decode cX13_newEntry 14 = .ok (.bipush 12, 2) := by decide +kernel
theorem dX13_newEntry_16 : decode cX13_newEntry 16 = .ok (.if_icmp .ge 29, 3) := by decide +kernel
theorem dX13_newEntry_19 : decode cX13_newEntry 19 = .ok (.aload_n 0, 1) := by decide +kernel
theorem dX13_newEntry_20 : decode cX13_newEntry 20 = .ok (.getfield 84, 3) := by decide +kernel
theorem dX13_newEntry_23 : decode cX13_newEntry 23 = .ok (.bipush 12, 2) := by decide +kernel
theorem dX13_newEntry_25 : decode cX13_newEntry 25 = .ok (.aload_n 0, 1) := by decide +kernel
theorem dX13_newEntry_26 : decode cX13_newEntry 26 = .ok (.getfield 418, 3) := by decide +kernel
theorem dX13_newEntry_29 : decode cX13_newEntry 29 = .ok (.imul, 1) := by decide +kernel
theorem dX13_newEntry_30 : decode cX13_newEntry 30 = .ok (.iload_n 3, 1) := by decide +kernel
theorem dX13_newEntry_31 : decode cX13_newEntry 31 = .ok (.iadd, 1) := by decide +kernel
theorem dX13_newEntry_32 : decode cX13_newEntry 32 = .ok (.aload_n 0, 1) := by decide +kernel
theorem dX13_newEntry_33 : decode cX13_newEntry 33 = .ok (.getfield 207, 3) := by decide +kernel
theorem dX13_newEntry_36 : decode cX13_newEntry 36 = .ok (.iload_n 3, 1) := by decide +kernel
theorem dX13_newEntry_37 : decode cX13_newEntry 37 = .ok (.baload, 1) := by decide +kernel
theorem dX13_newEntry_38 : decode cX13_newEntry 38 = .ok (.bastore, 1) := by decide +kernel
theorem dX13_newEntry_39 : decode cX13_newEntry 39 = .ok (.iinc 3 1, 3) := by decide +kernel
theorem dX13_newEntry_42 : decode cX13_newEntry 42 = .ok (.goto (-29), 3) := by decide +kernel
theorem dX13_newEntry_45 : decode cX13_newEntry 45 = .ok (.aload_n 0, 1) := by decide +kernel
theorem dX13_newEntry_46 : decode cX13_newEntry 46 = .ok (.getfield 87, 3) := by decide +kernel
theorem dX13_newEntry_49 : decode cX13_newEntry 49 = .ok (.aload_n 0, 1) := by decide +kernel
theorem dX13_newEntry_50 : decode cX13_newEntry 50 = .ok (.getfield 418, 3) := by decide +kernel
theorem dX13_newEntry_53 : decode cX13_newEntry 53 = .ok (.iload_n 2, 1) := by decide +kernel
theorem dX13_newEntry_54 : decode cX13_newEntry 54 = .ok (.iastore, 1) := by decide +kernel
theorem dX13_newEntry_55 : decode cX13_newEntry 55 = .ok (.aload_n 0, 1) := by decide +kernel
theorem dX13_newEntry_56 : decode cX13_newEntry 56 = .ok (.getfield 90, 3) := by decide +kernel
theorem dX13_newEntry_59 : decode cX13_newEntry 59 = .ok (.aload_n 0, 1) := by decide +kernel
theorem dX13_newEntry_60 : decode cX13_newEntry 60 = .ok (.getfield 418, 3) := by decide +kernel
theorem dX13_newEntry_63 : decode cX13_newEntry 63 = .ok (.iload_n 1, 1) := by decide +kernel
theorem dX13_newEntry_64 : decode cX13_newEntry 64 = .ok (.iastore, 1) := by decide +kernel
theorem dX13_newEntry_65 : decode cX13_newEntry 65 = .ok (.aload_n 0, 1) := by decide +kernel
theorem dX13_newEntry_66 : decode cX13_newEntry 66 = .ok (.getfield 102, 3) := by decide +kernel
theorem dX13_newEntry_69 : decode cX13_newEntry 69 = .ok (.aload_n 0, 1) := by decide +kernel
theorem dX13_newEntry_70 : decode cX13_newEntry 70 = .ok (.getfield 418, 3) := by decide +kernel
theorem dX13_newEntry_73 : decode cX13_newEntry 73 = .ok (.iconst (-1), 1) := by decide +kernel
theorem dX13_newEntry_74 : decode cX13_newEntry 74 = .ok (.iastore, 1) := by decide +kernel
theorem dX13_newEntry_75 : decode cX13_newEntry 75 = .ok (.aload_n 0, 1) := by decide +kernel
theorem dX13_newEntry_76 : decode cX13_newEntry 76 = .ok (.getfield 105, 3) := by decide +kernel
theorem dX13_newEntry_79 : decode cX13_newEntry 79 = .ok (.aload_n 0, 1) := by decide +kernel
theorem dX13_newEntry_80 : decode cX13_newEntry 80 = .ok (.getfield 418, 3) := by decide +kernel
theorem dX13_newEntry_83 : decode cX13_newEntry 83 = .ok (.iconst (-1), 1) := by decide +kernel
theorem dX13_newEntry_84 : decode cX13_newEntry 84 = .ok (.iastore, 1) := by decide +kernel
theorem dX13_newEntry_85 : decode cX13_newEntry 85 = .ok (.aload_n 0, 1) := by decide +kernel
theorem dX13_newEntry_86 : decode cX13_newEntry 86 = .ok (.getfield 114, 3) := by decide +kernel
theorem dX13_newEntry_89 : decode cX13_newEntry 89 = .ok (.aload_n 0, 1) := by decide +kernel
theorem dX13_newEntry_90 : decode cX13_newEntry 90 = .ok (.getfield 418, 3) := by decide +kernel
theorem dX13_newEntry_93 : decode cX13_newEntry 93 = .ok (.iconst (-1), 1) := by decide +kernel
theorem dX13_newEntry_94 : decode cX13_newEntry 94 = .ok (.iastore, 1) := by decide +kernel
theorem dX13_newEntry_95 : decode cX13_newEntry 95 = .ok (.aload_n 0, 1) := by decide +kernel
theorem dX13_newEntry_96 : decode cX13_newEntry 96 = .ok (.getfield 117, 3) := by decide +kernel
theorem dX13_newEntry_99 : decode cX13_newEntry 99 = .ok (.aload_n 0, 1) := by decide +kernel
theorem dX13_newEntry_100 : decode cX13_newEntry 100 = .ok (.getfield 418, 3) := by decide +kernel
theorem dX13_newEntry_103 : decode cX13_newEntry 103 = .ok (.iconst (-1), 1) := by decide +kernel
theorem dX13_newEntry_104 : decode cX13_newEntry 104 = .ok (.iastore, 1) := by decide +kernel
theorem dX13_newEntry_105 : decode cX13_newEntry 105 = .ok (.aload_n 0, 1) := by decide +kernel
theorem dX13_newEntry_106 : decode cX13_newEntry 106 = .ok (.dup, 1) := by decide +kernel
theorem dX13_newEntry_107 : decode cX13_newEntry 107 = .ok (.getfield 418, 3) := by decide +kernel
theorem dX13_newEntry_110 : decode cX13_newEntry 110 = .ok (.iconst 1, 1) := by decide +kernel
theorem dX13_newEntry_111 : decode cX13_newEntry 111 = .ok (.iadd, 1) := by decide +kernel
theorem dX13_newEntry_112 : decode cX13_newEntry 112 = .ok (.putfield 418, 3) := by decide +kernel
theorem dX13_newEntry_115 : decode cX13_newEntry 115 = .ok (.aload_n 0, 1) := by decide +kernel
theorem dX13_newEntry_116 : decode cX13_newEntry 116 = .ok (.getfield 418, 3) := by decide +kernel
theorem dX13_newEntry_119 : decode cX13_newEntry 119 = .ok (.iconst 1, 1) := by decide +kernel
theorem dX13_newEntry_120 : decode cX13_newEntry 120 = .ok (.isub, 1) := by decide +kernel
theorem dX13_newEntry_121 : decode cX13_newEntry 121 = .ok (.ireturn, 1) := by decide +kernel
theorem dX13_article_0 : decode cX13_article 0 = .ok (.aload_n 0, 1) := by decide +kernel
theorem dX13_article_1 : decode cX13_article 1 = .ok (.iload_n 1, 1) := by decide +kernel
theorem dX13_article_2 : decode cX13_article 2 = .ok (.iload_n 2, 1) := by decide +kernel
theorem dX13_article_3 : decode cX13_article 3 = .ok (.iload_n 3, 1) := by decide +kernel
theorem dX13_article_4 : decode cX13_article 4 = .ok (.invokevirtual 424, 3) := by decide +kernel
theorem dX13_article_7 : decode cX13_article 7 = .ok (.istore 5, 2) := by decide +kernel
theorem dX13_article_9 : decode cX13_article 9 = .ok (.iload 5, 2) := by decide +kernel
theorem dX13_article_11 : decode cX13_article 11 = .ok (.ifCond .eq 48, 3) := by decide +kernel
theorem dX13_article_14 : decode cX13_article 14 = .ok (.iload 4, 2) := by decide +kernel
theorem dX13_article_16 : decode cX13_article 16 = .ok (.ifCond .lt 43, 3) := by decide +kernel
theorem dX13_article_19 : decode cX13_article 19 = .ok (.iload 4, 2) := by decide +kernel
theorem dX13_article_21 : decode cX13_article 21 = .ok (.sipush 10000, 3) := by decide +kernel
theorem dX13_article_24 : decode cX13_article 24 = .ok (.idiv, 1) := by decide +kernel
theorem dX13_article_25 : decode cX13_article 25 = .ok (.iconst 2, 1) := by decide +kernel
theorem dX13_article_26 : decode cX13_article 26 = .ok (.if_icmp .gt 33, 3) := by decide +kernel
theorem dX13_article_29 : decode cX13_article 29 = .ok (.iload 4, 2) := by decide +kernel
theorem dX13_article_31 : decode cX13_article 31 = .ok (.sipush 1000, 3) := by decide +kernel
theorem dX13_article_34 : decode cX13_article 34 = .ok (.idiv, 1) := by decide +kernel
theorem dX13_article_35 : decode cX13_article 35 = .ok (.bipush 10, 2) := by decide +kernel
theorem dX13_article_37 : decode cX13_article 37 = .ok (.irem, 1) := by decide +kernel
theorem dX13_article_38 : decode cX13_article 38 = .ok (.bipush 8, 2) := by decide +kernel
theorem dX13_article_40 : decode cX13_article 40 = .ok (.if_icmp .ge 19, 3) := by decide +kernel
theorem dX13_article_43 : decode cX13_article 43 = .ok (.iload 4, 2) := by decide +kernel
theorem dX13_article_45 : decode cX13_article 45 = .ok (.sipush 1000, 3) := by decide +kernel
theorem dX13_article_48 : decode cX13_article 48 = .ok (.irem, 1) := by decide +kernel
theorem dX13_article_49 : decode cX13_article 49 = .ok (.iconst 1, 1) := by decide +kernel
theorem dX13_article_50 : decode cX13_article 50 = .ok (.sipush 200, 3) := by decide +kernel
theorem dX13_article_53 : decode cX13_article 53 = .ok (.invokestatic 256, 3) := by decide +kernel
theorem dX13_article_56 : decode cX13_article 56 = .ok (.ifCond .ne 5, 3) := by decide +kernel
theorem dX13_article_59 : decode cX13_article 59 = .ok (.iconst (-1), 1) := by decide +kernel
theorem dX13_article_60 : decode cX13_article 60 = .ok (.ireturn, 1) := by decide +kernel
theorem dX13_article_61 : decode cX13_article 61 = .ok (.aload_n 0, 1) := by decide +kernel
theorem dX13_article_62 : decode cX13_article 62 = .ok (.iconst 0, 1) := by decide +kernel
theorem dX13_article_63 : decode cX13_article 63 = .ok (.iload 5, 2) := by decide +kernel
theorem dX13_article_65 : decode cX13_article 65 = .ok (.invokevirtual 427, 3) := by decide +kernel
theorem dX13_article_68 : decode cX13_article 68 = .ok (.istore 6, 2) := by decide +kernel
theorem dX13_article_70 : decode cX13_article 70 = .ok (.iload 6, 2) := by decide +kernel
theorem dX13_article_72 : decode cX13_article 72 = .ok (.iconst (-1), 1) := by decide +kernel
theorem dX13_article_73 : decode cX13_article 73 = .ok (.if_icmp .ne 5, 3) := by decide +kernel
theorem dX13_article_76 : decode cX13_article 76 = .ok (.iconst (-1), 1) := by decide +kernel
theorem dX13_article_77 : decode cX13_article 77 = .ok (.ireturn, 1) := by decide +kernel
theorem dX13_article_78 : decode cX13_article 78 = .ok (.aload_n 0, 1) := by decide +kernel
theorem dX13_article_79 : decode cX13_article 79 = .ok (.getfield 93, 3) := by decide +kernel
theorem dX13_article_82 : decode cX13_article 82 = .ok (.iload 6, 2) := by decide +kernel
theorem dX13_article_84 : decode cX13_article 84 = .ok (.iload 4, 2) := by decide +kernel
theorem dX13_article_86 : decode cX13_article 86 = .ok (.sipush 10000, 3) := by decide +kernel
theorem dX13_article_89 : decode cX13_article 89 = .ok (.idiv, 1) := by decide +kernel
theorem dX13_article_90 : decode cX13_article 90 = .ok (.iastore, 1) := by decide +kernel
theorem dX13_article_91 : decode cX13_article 91 = .ok (.aload_n 0, 1) := by decide +kernel
theorem dX13_article_92 : decode cX13_article 92 = .ok (.getfield 96, 3) := by decide +kernel
theorem dX13_article_95 : decode cX13_article 95 = .ok (.iload 6, 2) := by decide +kernel
theorem dX13_article_97 : decode cX13_article 97 = .ok (.iload 4, 2) := by decide +kernel
theorem dX13_article_99 : decode cX13_article 99 = .ok (.sipush 1000, 3) := by decide +kernel
theorem dX13_article_102 : decode cX13_article 102 = .ok (.idiv, 1) := by decide +kernel
theorem dX13_article_103 : decode cX13_article 103 = .ok (.bipush 10, 2) := by decide +kernel
theorem dX13_article_105 : decode cX13_article 105 = .ok (.irem, 1) := by decide +kernel
theorem dX13_article_106 : decode cX13_article 106 = .ok (.iastore, 1) := by decide +kernel
theorem dX13_article_107 : decode cX13_article 107 = .ok (.aload_n 0, 1) := by decide +kernel
theorem dX13_article_108 : decode cX13_article 108 = .ok (.getfield 99, 3) := by decide +kernel
theorem dX13_article_111 : decode cX13_article 111 = .ok (.iload 6, 2) := by decide +kernel
theorem dX13_article_113 : decode cX13_article 113 = .ok (.iload 4, 2) := by decide +kernel
theorem dX13_article_115 : decode cX13_article 115 = .ok (.sipush 1000, 3) := by decide +kernel
theorem dX13_article_118 : decode cX13_article 118 = .ok (.irem, 1) := by decide +kernel
theorem dX13_article_119 : decode cX13_article 119 = .ok (.iastore, 1) := by decide +kernel
theorem dX13_article_120 : decode cX13_article 120 = .ok (.iload 6, 2) := by decide +kernel
theorem dX13_article_122 : decode cX13_article 122 = .ok (.ireturn, 1) := by decide +kernel
theorem dX13_pointer_0 : decode cX13_pointer 0 = .ok (.aload_n 0, 1) := by decide +kernel
theorem dX13_pointer_1 : decode cX13_pointer 1 = .ok (.iload_n 1, 1) := by decide +kernel
theorem dX13_pointer_2 : decode cX13_pointer 2 = .ok (.iload_n 2, 1) := by decide +kernel
theorem dX13_pointer_3 : decode cX13_pointer 3 = .ok (.iload_n 3, 1) := by decide +kernel
theorem dX13_pointer_4 : decode cX13_pointer 4 = .ok (.invokevirtual 424, 3) := by decide +kernel
theorem dX13_pointer_7 : decode cX13_pointer 7 = .ok (.istore 5, 2) := by decide +kernel
theorem dX13_pointer_9 : decode cX13_pointer 9 = .ok (.iload 5, 2) := by decide +kernel
theorem dX13_pointer_11 : decode cX13_pointer 11 = .ok (.ifCond .eq 12, 3) := by decide +kernel
theorem dX13_pointer_14 : decode cX13_pointer 14 = .ok (.aload_n 0, 1) := by decide +kernel
theorem dX13_pointer_15 : decode cX13_pointer 15 = .ok (.iload 4, 2) := by decide +kernel
theorem dX13_pointer_17 : decode cX13_pointer 17 = .ok (.invokevirtual 421, 3) := by decide +kernel
theorem dX13_pointer_20 : decode cX13_pointer 20 = .ok (.ifCond .ne 5, 3) := by decide +kernel
theorem dX13_pointer_23 : decode cX13_pointer 23 = .ok (.iconst (-1), 1) := by decide +kernel
theorem dX13_pointer_24 : decode cX13_pointer 24 = .ok (.ireturn, 1) := by decide +kernel
theorem dX13_pointer_25 : decode cX13_pointer 25 = .ok (.aload_n 0, 1) := by decide +kernel
theorem dX13_pointer_26 : decode cX13_pointer 26 = .ok (.iconst 1, 1) := by decide +kernel
theorem dX13_pointer_27 : decode cX13_pointer 27 = .ok (.iload 5, 2) := by decide +kernel
theorem dX13_pointer_29 : decode cX13_pointer 29 = .ok (.invokevirtual 427, 3) := by decide +kernel
theorem dX13_pointer_32 : decode cX13_pointer 32 = .ok (.istore 6, 2) := by decide +kernel
theorem dX13_pointer_34 : decode cX13_pointer 34 = .ok (.iload 6, 2) := by decide +kernel
theorem dX13_pointer_36 : decode cX13_pointer 36 = .ok (.iconst (-1), 1) := by decide +kernel
theorem dX13_pointer_37 : decode cX13_pointer 37 = .ok (.if_icmp .eq 12, 3) := by decide +kernel
theorem dX13_pointer_40 : decode cX13_pointer 40 = .ok (.aload_n 0, 1) := by decide +kernel
theorem dX13_pointer_41 : decode cX13_pointer 41 = .ok (.getfield 102, 3) := by decide +kernel
theorem dX13_pointer_44 : decode cX13_pointer 44 = .ok (.iload 6, 2) := by decide +kernel
theorem dX13_pointer_46 : decode cX13_pointer 46 = .ok (.iload 4, 2) := by decide +kernel
theorem dX13_pointer_48 : decode cX13_pointer 48 = .ok (.iastore, 1) := by decide +kernel
theorem dX13_pointer_49 : decode cX13_pointer 49 = .ok (.iload 6, 2) := by decide +kernel
theorem dX13_pointer_51 : decode cX13_pointer 51 = .ok (.ireturn, 1) := by decide +kernel
theorem dX13_plate_0 : decode cX13_plate 0 = .ok (.aload_n 0, 1) := by decide +kernel
theorem dX13_plate_1 : decode cX13_plate 1 = .ok (.iload_n 1, 1) := by decide +kernel
theorem dX13_plate_2 : decode cX13_plate 2 = .ok (.iload_n 2, 1) := by decide +kernel
theorem dX13_plate_3 : decode cX13_plate 3 = .ok (.iload_n 3, 1) := by decide +kernel
theorem dX13_plate_4 : decode cX13_plate 4 = .ok (.invokevirtual 424, 3) := by decide +kernel
theorem dX13_plate_7 : decode cX13_plate 7 = .ok (.istore 6, 2) := by decide +kernel
theorem dX13_plate_9 : decode cX13_plate 9 = .ok (.iload 6, 2) := by decide +kernel
theorem dX13_plate_11 : decode cX13_plate 11 = .ok (.ifCond .eq 18, 3) := by decide +kernel
theorem dX13_plate_14 : decode cX13_plate 14 = .ok (.iload 4, 2) := by decide +kernel
theorem dX13_plate_16 : decode cX13_plate 16 = .ok (.ifCond .lt 13, 3) := by decide +kernel
theorem dX13_plate_19 : decode cX13_plate 19 = .ok (.iload 5, 2) := by decide +kernel
theorem dX13_plate_21 : decode cX13_plate 21 = .ok (.iconst 1, 1) := by decide +kernel
theorem dX13_plate_22 : decode cX13_plate 22 = .ok (.iconst 4, 1) := by decide +kernel
theorem dX13_plate_23 : decode cX13_plate 23 = .ok (.invokestatic 256, 3) := by decide +kernel
theorem dX13_plate_26 : decode cX13_plate 26 = .ok (.ifCond .ne 5, 3) := by decide +kernel
theorem dX13_plate_29 : decode cX13_plate 29 = .ok (.iconst (-1), 1) := by decide +kernel
theorem dX13_plate_30 : decode cX13_plate 30 = .ok (.ireturn, 1) := by decide +kernel
theorem dX13_plate_31 : decode cX13_plate 31 = .ok (.iload 4, 2) := by decide +kernel
theorem dX13_plate_33 : decode cX13_plate 33 = .ok (.istore 7, 2) := by decide +kernel
theorem dX13_plate_35 : decode cX13_plate 35 = .ok (.iconst 0, 1) := by decide +kernel
theorem dX13_plate_36 : decode cX13_plate 36 = .ok (.istore 8, 2) := by decide +kernel
theorem dX13_plate_38 : decode cX13_plate 38 = .ok (.iload 8, 2) := by decide +kernel
theorem dX13_plate_40 : decode cX13_plate 40 = .ok (.iload 5, 2) := by decide +kernel
theorem dX13_plate_42 : decode cX13_plate 42 = .ok (.if_icmp .ge 78, 3) := by decide +kernel
theorem dX13_plate_45 : decode cX13_plate 45 = .ok (.aload_n 0, 1) := by decide +kernel
theorem dX13_plate_46 : decode cX13_plate 46 = .ok (.iload 7, 2) := by decide +kernel
theorem dX13_plate_48 : decode cX13_plate 48 = .ok (.bipush 100, 2) := by decide +kernel
theorem dX13_plate_50 : decode cX13_plate 50 = .ok (.irem, 1) := by decide +kernel
theorem dX13_plate_51 : decode cX13_plate 51 = .ok (.invokevirtual 421, 3) := by decide +kernel
theorem dX13_plate_54 : decode cX13_plate 54 = .ok (.ifCond .ne 5, 3) := by decide +kernel
theorem dX13_plate_57 : decode cX13_plate 57 = .ok (.iconst (-1), 1) := by decide +kernel
theorem dX13_plate_58 : decode cX13_plate 58 = .ok (.ireturn, 1) := by decide +kernel
theorem dX13_plate_59 : decode cX13_plate 59 = .ok (.iload 7, 2) := by decide +kernel
theorem dX13_plate_61 : decode cX13_plate 61 = .ok (.bipush 100, 2) := by decide +kernel
theorem dX13_plate_63 : decode cX13_plate 63 = .ok (.idiv, 1) := by decide +kernel
theorem dX13_plate_64 : decode cX13_plate 64 = .ok (.istore 9, 2) := by decide +kernel
theorem dX13_plate_66 : decode cX13_plate 66 = .ok (.iload 8, 2) := by decide +kernel
theorem dX13_plate_68 : decode cX13_plate 68 = .ok (.iconst 1, 1) := by decide +kernel
theorem dX13_plate_69 : decode cX13_plate 69 = .ok (.iadd, 1) := by decide +kernel
theorem dX13_plate_70 : decode cX13_plate 70 = .ok (.istore 10, 2) := by decide +kernel
theorem dX13_plate_72 : decode cX13_plate 72 = .ok (.iload 10, 2) := by decide +kernel
theorem dX13_plate_74 : decode cX13_plate 74 = .ok (.iload 5, 2) := by decide +kernel
theorem dX13_plate_76 : decode cX13_plate 76 = .ok (.if_icmp .ge 31, 3) := by decide +kernel
theorem dX13_plate_79 : decode cX13_plate 79 = .ok (.iload 9, 2) := by decide +kernel
theorem dX13_plate_81 : decode cX13_plate 81 = .ok (.bipush 100, 2) := by decide +kernel
theorem dX13_plate_83 : decode cX13_plate 83 = .ok (.irem, 1) := by decide +kernel
theorem dX13_plate_84 : decode cX13_plate 84 = .ok (.iload 7, 2) := by decide +kernel
theorem dX13_plate_86 : decode cX13_plate 86 = .ok (.bipush 100, 2) := by decide +kernel
theorem dX13_plate_88 : decode cX13_plate 88 = .ok (.irem, 1) := by decide +kernel
theorem dX13_plate_89 : decode cX13_plate 89 = .ok (.if_icmp .ne 5, 3) := by decide +kernel
theorem dX13_plate_92 : decode cX13_plate 92 = .ok (.iconst (-1), 1) := by decide +kernel
theorem dX13_plate_93 : decode cX13_plate 93 = .ok (.ireturn, 1) := by decide +kernel
theorem dX13_plate_94 : decode cX13_plate 94 = .ok (.iload 9, 2) := by decide +kernel
theorem dX13_plate_96 : decode cX13_plate 96 = .ok (.bipush 100, 2) := by decide +kernel
theorem dX13_plate_98 : decode cX13_plate 98 = .ok (.idiv, 1) := by decide +kernel
theorem dX13_plate_99 : decode cX13_plate 99 = .ok (.istore 9, 2) := by decide +kernel
theorem dX13_plate_101 : decode cX13_plate 101 = .ok (.iinc 10 1, 3) := by decide +kernel
theorem dX13_plate_104 : decode cX13_plate 104 = .ok (.goto (-32), 3) := by decide +kernel
theorem dX13_plate_107 : decode cX13_plate 107 = .ok (.iload 7, 2) := by decide +kernel
theorem dX13_plate_109 : decode cX13_plate 109 = .ok (.bipush 100, 2) := by decide +kernel
theorem dX13_plate_111 : decode cX13_plate 111 = .ok (.idiv, 1) := by decide +kernel
theorem dX13_plate_112 : decode cX13_plate 112 = .ok (.istore 7, 2) := by decide +kernel
theorem dX13_plate_114 : decode cX13_plate 114 = .ok (.iinc 8 1, 3) := by decide +kernel
theorem dX13_plate_117 : decode cX13_plate 117 = .ok (.goto (-79), 3) := by decide +kernel
theorem dX13_plate_120 : decode cX13_plate 120 = .ok (.iload 7, 2) := by decide +kernel
theorem dX13_plate_122 : decode cX13_plate 122 = .ok (.ifCond .le 7, 3) := by decide +kernel
theorem dX13_plate_125 : decode cX13_plate 125 = .ok (.iconst (-1), 1) := by decide +kernel
theorem dX13_plate_126 : decode cX13_plate 126 = .ok (.goto 10, 3) := by decide +kernel
theorem dX13_plate_129 : decode cX13_plate 129 = .ok (.aload_n 0, 1) := by decide +kernel
theorem dX13_plate_130 : decode cX13_plate 130 = .ok (.iconst 2, 1) := by decide +kernel
theorem dX13_plate_131 : decode cX13_plate 131 = .ok (.iload 6, 2) := by decide +kernel
theorem dX13_plate_133 : decode cX13_plate 133 = .ok (.invokevirtual 427, 3) := by decide +kernel
theorem dX13_plate_136 : decode cX13_plate 136 = .ok (.ireturn, 1) := by decide +kernel
theorem dX13_points_0 : decode cX13_points 0 = .ok (.aload_n 0, 1) := by decide +kernel
theorem dX13_points_1 : decode cX13_points 1 = .ok (.iload_n 1, 1) := by decide +kernel
theorem dX13_points_2 : decode cX13_points 2 = .ok (.invokevirtual 421, 3) := by decide +kernel
theorem dX13_points_5 : decode cX13_points 5 = .ok (.ifCond .eq 31, 3) := by decide +kernel
theorem dX13_points_8 : decode cX13_points 8 = .ok (.aload_n 0, 1) := by decide +kernel
theorem dX13_points_9 : decode cX13_points 9 = .ok (.getfield 90, 3) := by decide +kernel
theorem dX13_points_12 : decode cX13_points 12 = .ok (.iload_n 1, 1) := by decide +kernel
theorem dX13_points_13 : decode cX13_points 13 = .ok (.iaload, 1) := by decide +kernel
theorem dX13_points_14 : decode cX13_points 14 = .ok (.iconst 1, 1) := by decide +kernel
theorem dX13_points_15 : decode cX13_points 15 = .ok (.if_icmp .ne 21, 3) := by decide +kernel
theorem dX13_points_18 : decode cX13_points 18 = .ok (.aload_n 0, 1) := by decide +kernel
theorem dX13_points_19 : decode cX13_points 19 = .ok (.getfield 114, 3) := by decide +kernel
theorem dX13_points_22 : decode cX13_points 22 = .ok (.iload_n 1, 1) := by decide +kernel
theorem dX13_points_23 : decode cX13_points 23 = .ok (.iaload, 1) := by decide +kernel
theorem dX13_points_24 : decode cX13_points 24 = .ok (.iconst (-1), 1) := by decide +kernel
theorem dX13_points_25 : decode cX13_points 25 = .ok (.if_icmp .ne 11, 3) := by decide +kernel
theorem dX13_points_28 : decode cX13_points 28 = .ok (.aload_n 0, 1) := by decide +kernel
theorem dX13_points_29 : decode cX13_points 29 = .ok (.iload_n 2, 1) := by decide +kernel
theorem dX13_points_30 : decode cX13_points 30 = .ok (.invokevirtual 421, 3) := by decide +kernel
theorem dX13_points_33 : decode cX13_points 33 = .ok (.ifCond .ne 5, 3) := by decide +kernel
theorem dX13_points_36 : decode cX13_points 36 = .ok (.iconst 0, 1) := by decide +kernel
theorem dX13_points_37 : decode cX13_points 37 = .ok (.ireturn, 1) := by decide +kernel
theorem dX13_points_38 : decode cX13_points 38 = .ok (.aload_n 0, 1) := by decide +kernel
theorem dX13_points_39 : decode cX13_points 39 = .ok (.getfield 102, 3) := by decide +kernel
theorem dX13_points_42 : decode cX13_points 42 = .ok (.iload_n 1, 1) := by decide +kernel
theorem dX13_points_43 : decode cX13_points 43 = .ok (.iload_n 2, 1) := by decide +kernel
theorem dX13_points_44 : decode cX13_points 44 = .ok (.iastore, 1) := by decide +kernel
theorem dX13_points_45 : decode cX13_points 45 = .ok (.iconst 1, 1) := by decide +kernel
theorem dX13_points_46 : decode cX13_points 46 = .ok (.ireturn, 1) := by decide +kernel
theorem dX13_byKey_0 : decode cX13_byKey 0 = .ok (.aload_n 0, 1) := by decide +kernel
theorem dX13_byKey_1 : decode cX13_byKey 1 = .ok (.iload_n 1, 1) := by decide +kernel
theorem dX13_byKey_2 : decode cX13_byKey 2 = .ok (.bipush 6, 2) := by decide +kernel
theorem dX13_byKey_4 : decode cX13_byKey 4 = .ok (.iconst 0, 1) := by decide +kernel
theorem dX13_byKey_5 : decode cX13_byKey 5 = .ok (.aload_n 0, 1) := by decide +kernel
theorem dX13_byKey_6 : decode cX13_byKey 6 = .ok (.getfield 201, 3) := by decide +kernel
theorem dX13_byKey_9 : decode cX13_byKey 9 = .ok (.invokevirtual 410, 3) := by decide +kernel
theorem dX13_byKey_12 : decode cX13_byKey 12 = .ok (.pop, 1) := by decide +kernel
theorem dX13_byKey_13 : decode cX13_byKey 13 = .ok (.aload_n 0, 1) := by decide +kernel
theorem dX13_byKey_14 : decode cX13_byKey 14 = .ok (.iconst 0, 1) := by decide +kernel
theorem dX13_byKey_15 : decode cX13_byKey 15 = .ok (.bipush 6, 2) := by decide +kernel
theorem dX13_byKey_17 : decode cX13_byKey 17 = .ok (.aload_n 0, 1) := by decide +kernel
theorem dX13_byKey_18 : decode cX13_byKey 18 = .ok (.getfield 383, 3) := by decide +kernel
theorem dX13_byKey_21 : decode cX13_byKey 21 = .ok (.invokevirtual 404, 3) := by decide +kernel
theorem dX13_byKey_24 : decode cX13_byKey 24 = .ok (.iconst 1, 1) := by decide +kernel
theorem dX13_byKey_25 : decode cX13_byKey 25 = .ok (.if_icmp .ne 7, 3) := by decide +kernel
theorem dX13_byKey_28 : decode cX13_byKey 28 = .ok (.iconst 1, 1) := by decide +kernel
theorem dX13_byKey_29 : decode cX13_byKey 29 = .ok (.goto 4, 3) := by decide +kernel
theorem dX13_byKey_32 : decode cX13_byKey 32 = .ok (.iconst 0, 1) := by decide +kernel
theorem dX13_byKey_33 : decode cX13_byKey 33 = .ok (.istore_n 2, 1) := by decide +kernel
theorem dX13_byKey_34 : decode cX13_byKey 34 = .ok (.aload_n 0, 1) := by decide +kernel
theorem dX13_byKey_35 : decode cX13_byKey 35 = .ok (.getfield 201, 3) := by decide +kernel
theorem dX13_byKey_38 : decode cX13_byKey 38 = .ok (.iconst 0, 1) := by decide +kernel
theorem dX13_byKey_39 : decode cX13_byKey 39 = .ok (.iaload, 1) := by decide +kernel
theorem dX13_byKey_40 : decode cX13_byKey 40 = .ok (.istore_n 3, 1) := by decide +kernel
theorem dX13_byKey_41 : decode cX13_byKey 41 = .ok (.iload_n 2, 1) := by decide +kernel
theorem dX13_byKey_42 : decode cX13_byKey 42 = .ok (.ifCond .eq 17, 3) := by decide +kernel
theorem dX13_byKey_45 : decode cX13_byKey 45 = .ok (.iload_n 3, 1) := by decide +kernel
theorem dX13_byKey_46 : decode cX13_byKey 46 = .ok (.bipush 10, 2) := by decide +kernel
theorem dX13_byKey_48 : decode cX13_byKey 48 = .ok (.if_icmp .gt 7, 3) := by decide +kernel
theorem dX13_byKey_51 : decode cX13_byKey 51 = .ok (.iconst 1, 1) := by decide +kernel
theorem dX13_byKey_52 : decode cX13_byKey 52 = .ok (.goto 18, 3) := by decide +kernel
theorem dX13_byKey_55 : decode cX13_byKey 55 = .ok (.iconst 0, 1) := by decide +kernel
theorem dX13_byKey_56 : decode cX13_byKey 56 = .ok (.goto 14, 3) := by decide +kernel
theorem dX13_byKey_59 : decode cX13_byKey 59 = .ok (.iload_n 3, 1) := by decide +kernel
theorem dX13_byKey_60 : decode cX13_byKey 60 = .ok (.bipush 26, 2) := by decide +kernel
theorem dX13_byKey_62 : decode cX13_byKey 62 = .ok (.if_icmp .le 7, 3) := by decide +kernel
theorem dX13_byKey_65 : decode cX13_byKey 65 = .ok (.iconst 1, 1) := by decide +kernel
theorem dX13_byKey_66 : decode cX13_byKey 66 = .ok (.goto 4, 3) := by decide +kernel
theorem dX13_byKey_69 : decode cX13_byKey 69 = .ok (.iconst 0, 1) := by decide +kernel
theorem dX13_byKey_70 : decode cX13_byKey 70 = .ok (.istore 4, 2) := by decide +kernel
theorem dX13_byKey_72 : decode cX13_byKey 72 = .ok (.iload 4, 2) := by decide +kernel
theorem dX13_byKey_74 : decode cX13_byKey 74 = .ok (.ifCond .eq 13, 3) := by decide +kernel
theorem dX13_byKey_77 : decode cX13_byKey 77 = .ok (.iload_n 2, 1) := by decide +kernel
theorem dX13_byKey_78 : decode cX13_byKey 78 = .ok (.ifCond .eq 7, 3) := by decide +kernel
theorem dX13_byKey_81 : decode cX13_byKey 81 = .ok (.iconst 0, 1) := by decide +kernel
theorem dX13_byKey_82 : decode cX13_byKey 82 = .ok (.goto 4, 3) := by decide +kernel
theorem dX13_byKey_85 : decode cX13_byKey 85 = .ok (.iconst 5, 1) := by decide +kernel
theorem dX13_byKey_86 : decode cX13_byKey 86 = .ok (.ireturn, 1) := by decide +kernel
theorem dX13_byKey_87 : decode cX13_byKey 87 = .ok (.iload_n 2, 1) := by decide +kernel
theorem dX13_byKey_88 : decode cX13_byKey 88 = .ok (.ifCond .eq 10, 3) := by decide +kernel
theorem dX13_byKey_91 : decode cX13_byKey 91 = .ok (.iload_n 3, 1) := by decide +kernel
theorem dX13_byKey_92 : decode cX13_byKey 92 = .ok (.bipush 11, 2) := by decide +kernel
theorem dX13_byKey_94 : decode cX13_byKey 94 = .ok (.isub, 1) := by decide +kernel
theorem dX13_byKey_95 : decode cX13_byKey 95 = .ok (.goto 6, 3) := by decide +kernel
theorem dX13_byKey_98 : decode cX13_byKey 98 = .ok (.iload_n 3, 1) := by decide +kernel
theorem dX13_byKey_99 : decode cX13_byKey 99 = .ok (.iconst 1, 1) := by decide +kernel
theorem dX13_byKey_100 : decode cX13_byKey 100 = .ok (.isub, 1) := by decide +kernel
theorem dX13_byKey_101 : decode cX13_byKey 101 = .ok (.istore 5, 2) := by decide +kernel
theorem dX13_byKey_103 : decode cX13_byKey 103 = .ok (.iconst 0, 1) := by decide +kernel
theorem dX13_byKey_104 : decode cX13_byKey 104 = .ok (.istore 6, 2) := by decide +kernel
theorem dX13_byKey_106 : decode cX13_byKey 106 = .ok (.iload 6, 2) := by decide +kernel
theorem dX13_byKey_108 : decode cX13_byKey 108 = .ok (.iconst 5, 1) := by decide +kernel
theorem dX13_byKey_109 : decode cX13_byKey 109 = .ok (.if_icmp .ge 24, 3) := by decide +kernel
theorem dX13_byKey_112 : decode cX13_byKey 112 = .ok (.iload 5, 2) := by decide +kernel
theorem dX13_byKey_114 : decode cX13_byKey 114 = .ok (.aload_n 0, 1) := by decide +kernel
theorem dX13_byKey_115 : decode cX13_byKey 115 = .ok (.getfield 65, 3) := by decide +kernel
theorem dX13_byKey_118 : decode cX13_byKey 118 = .ok (.iload 6, 2) := by decide +kernel
theorem dX13_byKey_120 : decode cX13_byKey 120 = .ok (.iaload, 1) := by decide +kernel
theorem dX13_byKey_121 : decode cX13_byKey 121 = .ok (.if_icmp .gt 6, 3) := by decide +kernel
theorem dX13_byKey_124 : decode cX13_byKey 124 = .ok (.iload 6, 2) := by decide +kernel
theorem dX13_byKey_126 : decode cX13_byKey 126 = .ok (.ireturn, 1) := by decide +kernel
theorem dX13_byKey_127 : decode cX13_byKey 127 = .ok (.iinc 6 1, 3) := by decide +kernel
theorem dX13_byKey_130 : decode cX13_byKey 130 = .ok (.goto (-24), 3) := by decide +kernel
theorem dX13_byKey_133 : decode cX13_byKey 133 = .ok (.iconst 5, 1) := by decide +kernel
theorem dX13_byKey_134 : decode cX13_byKey 134 = .ok (.ireturn, 1) := by decide +kernel
theorem dX13_volumeOf_0 : decode cX13_volumeOf 0 = .ok (.aload_n 0, 1) := by decide +kernel
theorem dX13_volumeOf_1 : decode cX13_volumeOf 1 = .ok (.getfield 114, 3) := by decide +kernel
theorem dX13_volumeOf_4 : decode cX13_volumeOf 4 = .ok (.iload_n 1, 1) := by decide +kernel
theorem dX13_volumeOf_5 : decode cX13_volumeOf 5 = .ok (.iaload, 1) := by decide +kernel
theorem dX13_volumeOf_6 : decode cX13_volumeOf 6 = .ok (.iconst (-1), 1) := by decide +kernel
theorem dX13_volumeOf_7 : decode cX13_volumeOf 7 = .ok (.if_icmp .eq 10, 3) := by decide +kernel
theorem dX13_volumeOf_10 : decode cX13_volumeOf 10 = .ok (.aload_n 0, 1) := by decide +kernel
theorem dX13_volumeOf_11 : decode cX13_volumeOf 11 = .ok (.getfield 114, 3) := by decide +kernel
theorem dX13_volumeOf_14 : decode cX13_volumeOf 14 = .ok (.iload_n 1, 1) := by decide +kernel
theorem dX13_volumeOf_15 : decode cX13_volumeOf 15 = .ok (.iaload, 1) := by decide +kernel
theorem dX13_volumeOf_16 : decode cX13_volumeOf 16 = .ok (.ireturn, 1) := by decide +kernel
theorem dX13_volumeOf_17 : decode cX13_volumeOf 17 = .ok (.aload_n 0, 1) := by decide +kernel
theorem dX13_volumeOf_18 : decode cX13_volumeOf 18 = .ok (.getfield 111, 3) := by decide +kernel
theorem dX13_volumeOf_21 : decode cX13_volumeOf 21 = .ok (.iload_n 1, 1) := by decide +kernel
theorem dX13_volumeOf_22 : decode cX13_volumeOf 22 = .ok (.baload, 1) := by decide +kernel
theorem dX13_volumeOf_23 : decode cX13_volumeOf 23 = .ok (.ifCond .eq 6, 3) := by decide +kernel
theorem dX13_volumeOf_26 : decode cX13_volumeOf 26 = .ok (.bipush 6, 2) := by decide +kernel
theorem dX13_volumeOf_28 : decode cX13_volumeOf 28 = .ok (.ireturn, 1) := by decide +kernel
theorem dX13_volumeOf_29 : decode cX13_volumeOf 29 = .ok (.aload_n 0, 1) := by decide +kernel
theorem dX13_volumeOf_30 : decode cX13_volumeOf 30 = .ok (.iload_n 1, 1) := by decide +kernel
theorem dX13_volumeOf_31 : decode cX13_volumeOf 31 = .ok (.invokevirtual 430, 3) := by decide +kernel
theorem dX13_volumeOf_34 : decode cX13_volumeOf 34 = .ok (.istore_n 2, 1) := by decide +kernel
theorem dX13_volumeOf_35 : decode cX13_volumeOf 35 = .ok (.aload_n 0, 1) := by decide +kernel
theorem dX13_volumeOf_36 : decode cX13_volumeOf 36 = .ok (.getfield 68, 3) := by decide +kernel
theorem dX13_volumeOf_39 : decode cX13_volumeOf 39 = .ok (.iload_n 2, 1) := by decide +kernel
theorem dX13_volumeOf_40 : decode cX13_volumeOf 40 = .ok (.baload, 1) := by decide +kernel
theorem dX13_volumeOf_41 : decode cX13_volumeOf 41 = .ok (.ifCond .eq 8, 3) := by decide +kernel
theorem dX13_volumeOf_44 : decode cX13_volumeOf 44 = .ok (.bipush 6, 2) := by decide +kernel
theorem dX13_volumeOf_46 : decode cX13_volumeOf 46 = .ok (.goto 4, 3) := by decide +kernel
theorem dX13_volumeOf_49 : decode cX13_volumeOf 49 = .ok (.iload_n 2, 1) := by decide +kernel
theorem dX13_volumeOf_50 : decode cX13_volumeOf 50 = .ok (.ireturn, 1) := by decide +kernel
theorem dX13_volume_0 : decode cX13_volume 0 = .ok (.aload_n 0, 1) := by decide +kernel
theorem dX13_volume_1 : decode cX13_volume 1 = .ok (.iload_n 1, 1) := by decide +kernel
theorem dX13_volume_2 : decode cX13_volume 2 = .ok (.invokevirtual 421, 3) := by decide +kernel
theorem dX13_volume_5 : decode cX13_volume 5 = .ok (.ifCond .eq 11, 3) := by decide +kernel
theorem dX13_volume_8 : decode cX13_volume 8 = .ok (.aload_n 0, 1) := by decide +kernel
theorem dX13_volume_9 : decode cX13_volume 9 = .ok (.iload_n 1, 1) := by decide +kernel
theorem dX13_volume_10 : decode cX13_volume 10 = .ok (.invokevirtual 433, 3) := by decide +kernel
theorem dX13_volume_13 : decode cX13_volume 13 = .ok (.goto 4, 3) := by decide +kernel
theorem dX13_volume_16 : decode cX13_volume 16 = .ok (.iconst (-1), 1) := by decide +kernel
theorem dX13_volume_17 : decode cX13_volume 17 = .ok (.ireturn, 1) := by decide +kernel
theorem dX13_canGo_0 : decode cX13_canGo 0 = .ok (.aload_n 0, 1) := by decide +kernel
theorem dX13_canGo_1 : decode cX13_canGo 1 = .ok (.iload_n 1, 1) := by decide +kernel
theorem dX13_canGo_2 : decode cX13_canGo 2 = .ok (.invokevirtual 421, 3) := by decide +kernel
theorem dX13_canGo_5 : decode cX13_canGo 5 = .ok (.ifCond .eq 36, 3) := by decide +kernel
theorem dX13_canGo_8 : decode cX13_canGo 8 = .ok (.aload_n 0, 1) := by decide +kernel
theorem dX13_canGo_9 : decode cX13_canGo 9 = .ok (.getfield 108, 3) := by decide +kernel
theorem dX13_canGo_12 : decode cX13_canGo 12 = .ok (.iload_n 1, 1) := by decide +kernel
theorem dX13_canGo_13 : decode cX13_canGo 13 = .ok (.baload, 1) := by decide +kernel
theorem dX13_canGo_14 : decode cX13_canGo 14 = .ok (.ifCond .ne 27, 3) := by decide +kernel
theorem dX13_canGo_17 : decode cX13_canGo 17 = .ok (.aload_n 0, 1) := by decide +kernel
theorem dX13_canGo_18 : decode cX13_canGo 18 = .ok (.getfield 114, 3) := by decide +kernel
theorem dX13_canGo_21 : decode cX13_canGo 21 = .ok (.iload_n 1, 1) := by decide +kernel
theorem dX13_canGo_22 : decode cX13_canGo 22 = .ok (.iaload, 1) := by decide +kernel
theorem dX13_canGo_23 : decode cX13_canGo 23 = .ok (.iconst (-1), 1) := by decide +kernel
theorem dX13_canGo_24 : decode cX13_canGo 24 = .ok (.if_icmp .ne 17, 3) := by decide +kernel
theorem dX13_canGo_27 : decode cX13_canGo 27 = .ok (.aload_n 0, 1) := by decide +kernel
theorem dX13_canGo_28 : decode cX13_canGo 28 = .ok (.iload_n 1, 1) := by decide +kernel
theorem dX13_canGo_29 : decode cX13_canGo 29 = .ok (.invokevirtual 433, 3) := by decide +kernel
theorem dX13_canGo_32 : decode cX13_canGo 32 = .ok (.bipush 6, 2) := by decide +kernel
theorem dX13_canGo_34 : decode cX13_canGo 34 = .ok (.if_icmp .eq 7, 3) := by decide +kernel
theorem dX13_canGo_37 : decode cX13_canGo 37 = .ok (.iconst 1, 1) := by decide +kernel
theorem dX13_canGo_38 : decode cX13_canGo 38 = .ok (.goto 4, 3) := by decide +kernel
theorem dX13_canGo_41 : decode cX13_canGo 41 = .ok (.iconst 0, 1) := by decide +kernel
theorem dX13_canGo_42 : decode cX13_canGo 42 = .ok (.ireturn, 1) := by decide +kernel
theorem dX13_strike_0 : decode cX13_strike 0 = .ok (.aload_n 0, 1) := by decide +kernel
theorem dX13_strike_1 : decode cX13_strike 1 = .ok (.iload_n 1, 1) := by decide +kernel
theorem dX13_strike_2 : decode cX13_strike 2 = .ok (.invokevirtual 436, 3) := by decide +kernel
theorem dX13_strike_5 : decode cX13_strike 5 = .ok (.ifCond .ne 5, 3) := by decide +kernel
theorem dX13_strike_8 : decode cX13_strike 8 = .ok (.iconst 0, 1) := by decide +kernel
theorem dX13_strike_9 : decode cX13_strike 9 = .ok (.ireturn, 1) := by decide +kernel
theorem dX13_strike_10 : decode cX13_strike 10 = .ok (.aload_n 0, 1) := by decide +kernel
theorem dX13_strike_11 : decode cX13_strike 11 = .ok (.getfield 108, 3) := by decide +kernel
theorem dX13_strike_14 : decode cX13_strike 14 = .ok (.iload_n 1, 1) := by decide +kernel
theorem dX13_strike_15 : decode cX13_strike 15 = .ok (.iconst 1, 1) := by decide +kernel
theorem dX13_strike_16 : decode cX13_strike 16 = .ok (.bastore, 1) := by decide +kernel
theorem dX13_strike_17 : decode cX13_strike 17 = .ok (.iconst 1, 1) := by decide +kernel
theorem dX13_strike_18 : decode cX13_strike 18 = .ok (.ireturn, 1) := by decide +kernel
theorem dX13_later_0 : decode cX13_later 0 = .ok (.aload_n 0, 1) := by decide +kernel
theorem dX13_later_1 : decode cX13_later 1 = .ok (.iload_n 1, 1) := by decide +kernel
theorem dX13_later_2 : decode cX13_later 2 = .ok (.invokevirtual 436, 3) := by decide +kernel
theorem dX13_later_5 : decode cX13_later 5 = .ok (.ifCond .ne 5, 3) := by decide +kernel
theorem dX13_later_8 : decode cX13_later 8 = .ok (.iconst 0, 1) := by decide +kernel
theorem dX13_later_9 : decode cX13_later 9 = .ok (.ireturn, 1) := by decide +kernel
theorem dX13_later_10 : decode cX13_later 10 = .ok (.aload_n 0, 1) := by decide +kernel
theorem dX13_later_11 : decode cX13_later 11 = .ok (.getfield 111, 3) := by decide +kernel
theorem dX13_later_14 : decode cX13_later 14 = .ok (.iload_n 1, 1) := by decide +kernel
theorem dX13_later_15 : decode cX13_later 15 = .ok (.iconst 1, 1) := by decide +kernel
theorem dX13_later_16 : decode cX13_later 16 = .ok (.bastore, 1) := by decide +kernel
theorem dX13_later_17 : decode cX13_later 17 = .ok (.iconst 1, 1) := by decide +kernel
theorem dX13_later_18 : decode cX13_later 18 = .ok (.ireturn, 1) := by decide +kernel
theorem dX13_orders_0 : decode cX13_orders 0 = .ok (.aload_n 0, 1) := by decide +kernel
theorem dX13_orders_1 : decode cX13_orders 1 = .ok (.getfield 68, 3) := by decide +kernel
theorem dX13_orders_4 : decode cX13_orders 4 = .ok (.iload_n 1, 1) := by decide +kernel
theorem dX13_orders_5 : decode cX13_orders 5 = .ok (.baload, 1) := by decide +kernel
theorem dX13_orders_6 : decode cX13_orders 6 = .ok (.ifCond .eq 45, 3) := by decide +kernel
theorem dX13_orders_9 : decode cX13_orders 9 = .ok (.iconst 0, 1) := by decide +kernel
theorem dX13_orders_10 : decode cX13_orders 10 = .ok (.istore_n 2, 1) := by decide +kernel
theorem dX13_orders_11 : decode cX13_orders 11 = .ok (.iload_n 2, 1) := by decide +kernel
theorem dX13_orders_12 : decode cX13_orders 12 = .ok (.aload_n 0, 1) := by decide +kernel
theorem dX13_orders_13 : decode cX13_orders 13 = .ok (.getfield 75, 3) := by decide +kernel
theorem dX13_orders_16 : decode cX13_orders 16 = .ok (.iload_n 1, 1) := by decide +kernel
theorem dX13_orders_17 : decode cX13_orders 17 = .ok (.iaload, 1) := by decide +kernel
theorem dX13_orders_18 : decode cX13_orders 18 = .ok (.if_icmp .ge 26, 3) := by decide +kernel
theorem dX13_orders_21 : decode cX13_orders 21 = .ok (.aload_n 0, 1) := by decide +kernel
theorem dX13_orders_22 : decode cX13_orders 22 = .ok (.getfield 210, 3) := by decide +kernel
theorem dX13_orders_25 : decode cX13_orders 25 = .ok (.iload_n 2, 1) := by decide +kernel
theorem dX13_orders_26 : decode cX13_orders 26 = .ok (.aload_n 0, 1) := by decide +kernel
theorem dX13_orders_27 : decode cX13_orders 27 = .ok (.getfield 78, 3) := by decide +kernel
theorem dX13_orders_30 : decode cX13_orders 30 = .ok (.bipush 60, 2) := by decide +kernel
theorem dX13_orders_32 : decode cX13_orders 32 = .ok (.iload_n 1, 1) := by decide +kernel
theorem dX13_orders_33 : decode cX13_orders 33 = .ok (.imul, 1) := by decide +kernel
theorem dX13_orders_34 : decode cX13_orders 34 = .ok (.iload_n 2, 1) := by decide +kernel
theorem dX13_orders_35 : decode cX13_orders 35 = .ok (.iadd, 1) := by decide +kernel
theorem dX13_orders_36 : decode cX13_orders 36 = .ok (.iaload, 1) := by decide +kernel
theorem dX13_orders_37 : decode cX13_orders 37 = .ok (.iastore, 1) := by decide +kernel
theorem dX13_orders_38 : decode cX13_orders 38 = .ok (.iinc 2 1, 3) := by decide +kernel
theorem dX13_orders_41 : decode cX13_orders 41 = .ok (.goto (-30), 3) := by decide +kernel
theorem dX13_orders_44 : decode cX13_orders 44 = .ok (.aload_n 0, 1) := by decide +kernel
theorem dX13_orders_45 : decode cX13_orders 45 = .ok (.getfield 75, 3) := by decide +kernel
theorem dX13_orders_48 : decode cX13_orders 48 = .ok (.iload_n 1, 1) := by decide +kernel
theorem dX13_orders_49 : decode cX13_orders 49 = .ok (.iaload, 1) := by decide +kernel
theorem dX13_orders_50 : decode cX13_orders 50 = .ok (.ireturn, 1) := by decide +kernel
theorem dX13_orders_51 : decode cX13_orders 51 = .ok (.iconst 0, 1) := by decide +kernel
theorem dX13_orders_52 : decode cX13_orders 52 = .ok (.istore_n 2, 1) := by decide +kernel
theorem dX13_orders_53 : decode cX13_orders 53 = .ok (.iconst 0, 1) := by decide +kernel
theorem dX13_orders_54 : decode cX13_orders 54 = .ok (.istore_n 3, 1) := by decide +kernel
theorem dX13_orders_55 : decode cX13_orders 55 = .ok (.iload_n 3, 1) := by decide +kernel
theorem dX13_orders_56 : decode cX13_orders 56 = .ok (.aload_n 0, 1) := by decide +kernel
theorem dX13_orders_57 : decode cX13_orders 57 = .ok (.getfield 418, 3) := by decide +kernel
theorem dX13_orders_60 : decode cX13_orders 60 = .ok (.if_icmp .ge 81, 3) := by decide +kernel
theorem dX13_orders_63 : decode cX13_orders 63 = .ok (.aload_n 0, 1) := by decide +kernel
theorem dX13_orders_64 : decode cX13_orders 64 = .ok (.iload_n 3, 1) := by decide +kernel
theorem dX13_orders_65 : decode cX13_orders 65 = .ok (.invokevirtual 433, 3) := by decide +kernel
theorem dX13_orders_68 : decode cX13_orders 68 = .ok (.iload_n 1, 1) := by decide +kernel
theorem dX13_orders_69 : decode cX13_orders 69 = .ok (.if_icmp .eq 6, 3) := by decide +kernel
theorem dX13_orders_72 : decode cX13_orders 72 = .ok (.goto 63, 3) := by decide +kernel
theorem dX13_orders_75 : decode cX13_orders 75 = .ok (.iload_n 2, 1) := by decide +kernel
theorem dX13_orders_76 : decode cX13_orders 76 = .ok (.istore 4, 2) := by decide +kernel
theorem dX13_orders_78 : decode cX13_orders 78 = .ok (.iload 4, 2) := by decide +kernel
theorem dX13_orders_80 : decode cX13_orders 80 = .ok (.ifCond .le 44, 3) := by decide +kernel
theorem dX13_orders_83 : decode cX13_orders 83 = .ok (.aload_n 0, 1) := by decide +kernel
theorem dX13_orders_84 : decode cX13_orders 84 = .ok (.iload_n 3, 1) := by decide +kernel
theorem dX13_orders_85 : decode cX13_orders 85 = .ok (.aload_n 0, 1) := by decide +kernel
theorem dX13_orders_86 : decode cX13_orders 86 = .ok (.getfield 210, 3) := by decide +kernel
theorem dX13_orders_89 : decode cX13_orders 89 = .ok (.iload 4, 2) := by decide +kernel
theorem dX13_orders_91 : decode cX13_orders 91 = .ok (.iconst 1, 1) := by decide +kernel
theorem dX13_orders_92 : decode cX13_orders 92 = .ok (.isub, 1) := by decide +kernel
theorem dX13_orders_93 : decode cX13_orders 93 = .ok (.iaload, 1) := by decide +kernel
theorem dX13_orders_94 : decode cX13_orders 94 = .ok (.iload_n 1, 1) := by decide +kernel
theorem dX13_orders_95 : decode cX13_orders 95 = .ok (.iconst 0, 1) := by decide +kernel
theorem dX13_orders_96 : decode cX13_orders 96 = .ok (.invokevirtual 439, 3) := by decide +kernel
theorem dX13_orders_99 : decode cX13_orders 99 = .ok (.ifCond .eq 25, 3) := by decide +kernel
theorem dX13_orders_102 : decode cX13_orders 102 = .ok (.aload_n 0, 1) := by decide +kernel
theorem dX13_orders_103 : decode cX13_orders 103 = .ok (.getfield 210, 3) := by decide +kernel
theorem dX13_orders_106 : decode cX13_orders 106 = .ok (.iload 4, 2) := by decide +kernel
theorem dX13_orders_108 : decode cX13_orders 108 = .ok (.aload_n 0, 1) := by decide +kernel
theorem dX13_orders_109 : decode cX13_orders 109 = .ok (.getfield 210, 3) := by decide +kernel
theorem dX13_orders_112 : decode cX13_orders 112 = .ok (.iload 4, 2) := by decide +kernel
theorem dX13_orders_114 : decode cX13_orders 114 = .ok (.iconst 1, 1) := by decide +kernel
theorem dX13_orders_115 : decode cX13_orders 115 = .ok (.isub, 1) := by decide +kernel
theorem dX13_orders_116 : decode cX13_orders 116 = .ok (.iaload, 1) := by decide +kernel
theorem dX13_orders_117 : decode cX13_orders 117 = .ok (.iastore, 1) := by decide +kernel
theorem dX13_orders_118 : decode cX13_orders 118 = .ok (.iinc 4 (-1), 3) := by decide +kernel
theorem dX13_orders_121 : decode cX13_orders 121 = .ok (.goto (-43), 3) := by decide +kernel
theorem dX13_orders_124 : decode cX13_orders 124 = .ok (.aload_n 0, 1) := by decide +kernel
theorem dX13_orders_125 : decode cX13_orders 125 = .ok (.getfield 210, 3) := by decide +kernel
theorem dX13_orders_128 : decode cX13_orders 128 = .ok (.iload 4, 2) := by decide +kernel
theorem dX13_orders_130 : decode cX13_orders 130 = .ok (.iload_n 3, 1) := by decide +kernel
theorem dX13_orders_131 : decode cX13_orders 131 = .ok (.iastore, 1) := by decide +kernel
theorem dX13_orders_132 : decode cX13_orders 132 = .ok (.iinc 2 1, 3) := by decide +kernel
theorem dX13_orders_135 : decode cX13_orders 135 = .ok (.iinc 3 1, 3) := by decide +kernel
theorem dX13_orders_138 : decode cX13_orders 138 = .ok (.goto (-83), 3) := by decide +kernel
theorem dX13_orders_141 : decode cX13_orders 141 = .ok (.iload_n 2, 1) := by decide +kernel
theorem dX13_orders_142 : decode cX13_orders 142 = .ok (.ireturn, 1) := by decide +kernel
theorem dX13_at_0 : decode cX13_at 0 = .ok (.iload_n 1, 1) := by decide +kernel
theorem dX13_at_1 : decode cX13_at 1 = .ok (.invokestatic 377, 3) := by decide +kernel
theorem dX13_at_4 : decode cX13_at 4 = .ok (.ifCond .eq 27, 3) := by decide +kernel
theorem dX13_at_7 : decode cX13_at 7 = .ok (.iload_n 2, 1) := by decide +kernel
theorem dX13_at_8 : decode cX13_at 8 = .ok (.iconst 0, 1) := by decide +kernel
theorem dX13_at_9 : decode cX13_at 9 = .ok (.aload_n 0, 1) := by decide +kernel
theorem dX13_at_10 : decode cX13_at 10 = .ok (.iload_n 1, 1) := by decide +kernel
theorem dX13_at_11 : decode cX13_at 11 = .ok (.invokevirtual 442, 3) := by decide +kernel
theorem dX13_at_14 : decode cX13_at 14 = .ok (.iconst 1, 1) := by decide +kernel
theorem dX13_at_15 : decode cX13_at 15 = .ok (.isub, 1) := by decide +kernel
theorem dX13_at_16 : decode cX13_at 16 = .ok (.invokestatic 256, 3) := by decide +kernel
theorem dX13_at_19 : decode cX13_at 19 = .ok (.ifCond .eq 12, 3) := by decide +kernel
theorem dX13_at_22 : decode cX13_at 22 = .ok (.aload_n 0, 1) := by decide +kernel
theorem dX13_at_23 : decode cX13_at 23 = .ok (.getfield 210, 3) := by decide +kernel
theorem dX13_at_26 : decode cX13_at 26 = .ok (.iload_n 2, 1) := by decide +kernel
theorem dX13_at_27 : decode cX13_at 27 = .ok (.iaload, 1) := by decide +kernel
theorem dX13_at_28 : decode cX13_at 28 = .ok (.goto 4, 3) := by decide +kernel
theorem dX13_at_31 : decode cX13_at 31 = .ok (.iconst (-1), 1) := by decide +kernel
theorem dX13_at_32 : decode cX13_at 32 = .ok (.ireturn, 1) := by decide +kernel
theorem dX13_why_0 : decode cX13_why 0 = .ok (.aload_n 0, 1) := by decide +kernel
theorem dX13_why_1 : decode cX13_why 1 = .ok (.iload_n 1, 1) := by decide +kernel
theorem dX13_why_2 : decode cX13_why 2 = .ok (.invokevirtual 421, 3) := by decide +kernel
theorem dX13_why_5 : decode cX13_why 5 = .ok (.ifCond .eq 16, 3) := by decide +kernel
theorem dX13_why_8 : decode cX13_why 8 = .ok (.aload_n 0, 1) := by decide +kernel
theorem dX13_why_9 : decode cX13_why 9 = .ok (.iload_n 2, 1) := by decide +kernel
theorem dX13_why_10 : decode cX13_why 10 = .ok (.invokevirtual 421, 3) := by decide +kernel
theorem dX13_why_13 : decode cX13_why 13 = .ok (.ifCond .eq 8, 3) := by decide +kernel
theorem dX13_why_16 : decode cX13_why 16 = .ok (.iload_n 1, 1) := by decide +kernel
theorem dX13_why_17 : decode cX13_why 17 = .ok (.iload_n 2, 1) := by decide +kernel
theorem dX13_why_18 : decode cX13_why 18 = .ok (.if_icmp .ne 5, 3) := by decide +kernel
theorem dX13_why_21 : decode cX13_why 21 = .ok (.iconst (-1), 1) := by decide +kernel
theorem dX13_why_22 : decode cX13_why 22 = .ok (.ireturn, 1) := by decide +kernel
theorem dX13_why_23 : decode cX13_why 23 = .ok (.aload_n 0, 1) := by decide +kernel
theorem dX13_why_24 : decode cX13_why 24 = .ok (.iload_n 1, 1) := by decide +kernel
theorem dX13_why_25 : decode cX13_why 25 = .ok (.iload_n 2, 1) := by decide +kernel
theorem dX13_why_26 : decode cX13_why 26 = .ok (.bipush 6, 2) := by decide +kernel
theorem dX13_why_28 : decode cX13_why 28 = .ok (.iconst 0, 1) := by decide +kernel
theorem dX13_why_29 : decode cX13_why 29 = .ok (.invokevirtual 414, 3) := by decide +kernel
theorem dX13_why_32 : decode cX13_why 32 = .ok (.ifCond .ne 5, 3) := by decide +kernel
theorem dX13_why_35 : decode cX13_why 35 = .ok (.iconst 4, 1) := by decide +kernel
theorem dX13_why_36 : decode cX13_why 36 = .ok (.ireturn, 1) := by decide +kernel
theorem dX13_why_37 : decode cX13_why 37 = .ok (.iconst 1, 1) := by decide +kernel
theorem dX13_why_38 : decode cX13_why 38 = .ok (.istore_n 3, 1) := by decide +kernel
theorem dX13_why_39 : decode cX13_why 39 = .ok (.iload_n 3, 1) := by decide +kernel
theorem dX13_why_40 : decode cX13_why 40 = .ok (.iconst 4, 1) := by decide +kernel
theorem dX13_why_41 : decode cX13_why 41 = .ok (.if_icmp .ge 32, 3) := by decide +kernel
theorem dX13_why_44 : decode cX13_why 44 = .ok (.aload_n 0, 1) := by decide +kernel
theorem dX13_why_45 : decode cX13_why 45 = .ok (.iload_n 1, 1) := by decide +kernel
theorem dX13_why_46 : decode cX13_why 46 = .ok (.iload_n 2, 1) := by decide +kernel
theorem dX13_why_47 : decode cX13_why 47 = .ok (.bipush 6, 2) := by decide +kernel
theorem dX13_why_49 : decode cX13_why 49 = .ok (.iload_n 3, 1) := by decide +kernel
theorem dX13_why_50 : decode cX13_why 50 = .ok (.invokevirtual 439, 3) := by decide +kernel
theorem dX13_why_53 : decode cX13_why 53 = .ok (.aload_n 0, 1) := by decide +kernel
theorem dX13_why_54 : decode cX13_why 54 = .ok (.iload_n 1, 1) := by decide +kernel
theorem dX13_why_55 : decode cX13_why 55 = .ok (.iload_n 2, 1) := by decide +kernel
theorem dX13_why_56 : decode cX13_why 56 = .ok (.bipush 6, 2) := by decide +kernel
theorem dX13_why_58 : decode cX13_why 58 = .ok (.iconst 0, 1) := by decide +kernel
theorem dX13_why_59 : decode cX13_why 59 = .ok (.invokevirtual 439, 3) := by decide +kernel
theorem dX13_why_62 : decode cX13_why 62 = .ok (.if_icmp .eq 5, 3) := by decide +kernel
theorem dX13_why_65 : decode cX13_why 65 = .ok (.iload_n 3, 1) := by decide +kernel
theorem dX13_why_66 : decode cX13_why 66 = .ok (.ireturn, 1) := by decide +kernel
theorem dX13_why_67 : decode cX13_why 67 = .ok (.iinc 3 1, 3) := by decide +kernel
theorem dX13_why_70 : decode cX13_why 70 = .ok (.goto (-31), 3) := by decide +kernel
theorem dX13_why_73 : decode cX13_why 73 = .ok (.iconst 0, 1) := by decide +kernel
theorem dX13_why_74 : decode cX13_why 74 = .ok (.ireturn, 1) := by decide +kernel
theorem dX13_isHand_0 : decode cX13_isHand 0 = .ok (.iload_n 1, 1) := by decide +kernel
theorem dX13_isHand_1 : decode cX13_isHand 1 = .ok (.iconst 0, 1) := by decide +kernel
theorem dX13_isHand_2 : decode cX13_isHand 2 = .ok (.aload_n 0, 1) := by decide +kernel
theorem dX13_isHand_3 : decode cX13_isHand 3 = .ok (.getfield 445, 3) := by decide +kernel
theorem dX13_isHand_6 : decode cX13_isHand 6 = .ok (.iconst 1, 1) := by decide +kernel
theorem dX13_isHand_7 : decode cX13_isHand 7 = .ok (.isub, 1) := by decide +kernel
theorem dX13_isHand_8 : decode cX13_isHand 8 = .ok (.invokestatic 256, 3) := by decide +kernel
theorem dX13_isHand_11 : decode cX13_isHand 11 = .ok (.ireturn, 1) := by decide +kernel
theorem dX13_hand_0 : decode cX13_hand 0 = .ok (.iload_n 1, 1) := by decide +kernel
theorem dX13_hand_1 : decode cX13_hand 1 = .ok (.iconst 1, 1) := by decide +kernel
theorem dX13_hand_2 : decode cX13_hand 2 = .ok (.sipush 255, 3) := by decide +kernel
theorem dX13_hand_5 : decode cX13_hand 5 = .ok (.invokestatic 256, 3) := by decide +kernel
theorem dX13_hand_8 : decode cX13_hand 8 = .ok (.ifCond .eq 33, 3) := by decide +kernel
theorem dX13_hand_11 : decode cX13_hand 11 = .ok (.iload_n 2, 1) := by decide +kernel
theorem dX13_hand_12 : decode cX13_hand 12 = .ok (.iconst 1, 1) := by decide +kernel
theorem dX13_hand_13 : decode cX13_hand 13 = .ok (.bipush 20, 2) := by decide +kernel
theorem dX13_hand_15 : decode cX13_hand 15 = .ok (.invokestatic 256, 3) := by decide +kernel
theorem dX13_hand_18 : decode cX13_hand 18 = .ok (.ifCond .eq 23, 3) := by decide +kernel
theorem dX13_hand_21 : decode cX13_hand 21 = .ok (.iload_n 3, 1) := by decide +kernel
theorem dX13_hand_22 : decode cX13_hand 22 = .ok (.ldc_w 448, 3) := by decide +kernel
theorem dX13_hand_25 : decode cX13_hand 25 = .ok (.iconst 0, 1) := by decide +kernel
theorem dX13_hand_26 : decode cX13_hand 26 = .ok (.invokestatic 256, 3) := by decide +kernel
theorem dX13_hand_29 : decode cX13_hand 29 = .ok (.ifCond .eq 12, 3) := by decide +kernel
theorem dX13_hand_32 : decode cX13_hand 32 = .ok (.aload_n 0, 1) := by decide +kernel
theorem dX13_hand_33 : decode cX13_hand 33 = .ok (.getfield 445, 3) := by decide +kernel
theorem dX13_hand_36 : decode cX13_hand 36 = .ok (.bipush 12, 2) := by decide +kernel
theorem dX13_hand_38 : decode cX13_hand 38 = .ok (.if_icmp .ne 5, 3) := by decide +kernel
theorem dX13_hand_41 : decode cX13_hand 41 = .ok (.iconst (-1), 1) := by decide +kernel
theorem dX13_hand_42 : decode cX13_hand 42 = .ok (.ireturn, 1) := by decide +kernel
theorem dX13_hand_43 : decode cX13_hand 43 = .ok (.aload_n 0, 1) := by decide +kernel
theorem dX13_hand_44 : decode cX13_hand 44 = .ok (.getfield 120, 3) := by decide +kernel
theorem dX13_hand_47 : decode cX13_hand 47 = .ok (.aload_n 0, 1) := by decide +kernel
theorem dX13_hand_48 : decode cX13_hand 48 = .ok (.getfield 445, 3) := by decide +kernel
theorem dX13_hand_51 : decode cX13_hand 51 = .ok (.iload_n 1, 1) := by decide +kernel
theorem dX13_hand_52 : decode cX13_hand 52 = .ok (.iastore, 1) := by decide +kernel
theorem dX13_hand_53 : decode cX13_hand 53 = .ok (.aload_n 0, 1) := by decide +kernel
theorem dX13_hand_54 : decode cX13_hand 54 = .ok (.getfield 123, 3) := by decide +kernel
theorem dX13_hand_57 : decode cX13_hand 57 = .ok (.aload_n 0, 1) := by decide +kernel
theorem dX13_hand_58 : decode cX13_hand 58 = .ok (.getfield 445, 3) := by decide +kernel
theorem dX13_hand_61 : decode cX13_hand 61 = .ok (.iload_n 2, 1) := by decide +kernel
theorem dX13_hand_62 : decode cX13_hand 62 = .ok (.iastore, 1) := by decide +kernel
theorem dX13_hand_63 : decode cX13_hand 63 = .ok (.aload_n 0, 1) := by decide +kernel
theorem dX13_hand_64 : decode cX13_hand 64 = .ok (.getfield 126, 3) := by decide +kernel
theorem dX13_hand_67 : decode cX13_hand 67 = .ok (.aload_n 0, 1) := by decide +kernel
theorem dX13_hand_68 : decode cX13_hand 68 = .ok (.getfield 445, 3) := by decide +kernel
theorem dX13_hand_71 : decode cX13_hand 71 = .ok (.iload_n 3, 1) := by decide +kernel
theorem dX13_hand_72 : decode cX13_hand 72 = .ok (.iastore, 1) := by decide +kernel
theorem dX13_hand_73 : decode cX13_hand 73 = .ok (.aload_n 0, 1) := by decide +kernel
theorem dX13_hand_74 : decode cX13_hand 74 = .ok (.dup, 1) := by decide +kernel
theorem dX13_hand_75 : decode cX13_hand 75 = .ok (.getfield 445, 3) := by decide +kernel
theorem dX13_hand_78 : decode cX13_hand 78 = .ok (.iconst 1, 1) := by decide +kernel
theorem dX13_hand_79 : decode cX13_hand 79 = .ok (.iadd, 1) := by decide +kernel
theorem dX13_hand_80 : decode cX13_hand 80 = .ok (.putfield 445, 3) := by decide +kernel
theorem dX13_hand_83 : decode cX13_hand 83 = .ok (.aload_n 0, 1) := by decide +kernel
theorem dX13_hand_84 : decode cX13_hand 84 = .ok (.getfield 445, 3) := by decide +kernel
theorem dX13_hand_87 : decode cX13_hand 87 = .ok (.iconst 1, 1) := by decide +kernel
theorem dX13_hand_88 : decode cX13_hand 88 = .ok (.isub, 1) := by decide +kernel
theorem dX13_hand_89 : decode cX13_hand 89 = .ok (.ireturn, 1) := by decide +kernel
theorem dX13_enemies_0 : decode cX13_enemies 0 = .ok (.aload_n 0, 1) := by decide +kernel
theorem dX13_enemies_1 : decode cX13_enemies 1 = .ok (.iload_n 1, 1) := by decide +kernel
theorem dX13_enemies_2 : decode cX13_enemies 2 = .ok (.invokevirtual 449, 3) := by decide +kernel
theorem dX13_enemies_5 : decode cX13_enemies 5 = .ok (.ifCond .eq 30, 3) := by decide +kernel
theorem dX13_enemies_8 : decode cX13_enemies 8 = .ok (.aload_n 0, 1) := by decide +kernel
theorem dX13_enemies_9 : decode cX13_enemies 9 = .ok (.iload_n 2, 1) := by decide +kernel
theorem dX13_enemies_10 : decode cX13_enemies 10 = .ok (.invokevirtual 449, 3) := by decide +kernel
theorem dX13_enemies_13 : decode cX13_enemies 13 = .ok (.ifCond .eq 22, 3) := by decide +kernel
theorem dX13_enemies_16 : decode cX13_enemies 16 = .ok (.iload_n 1, 1) := by decide +kernel
theorem dX13_enemies_17 : decode cX13_enemies 17 = .ok (.iload_n 2, 1) := by decide +kernel
theorem dX13_enemies_18 : decode cX13_enemies 18 = .ok (.if_icmp .eq 17, 3) := by decide +kernel
theorem dX13_enemies_21 : decode cX13_enemies 21 = .ok (.aload_n 0, 1) := by decide +kernel
theorem dX13_enemies_22 : decode cX13_enemies 22 = .ok (.getfield 132, 3) := by decide +kernel
theorem dX13_enemies_25 : decode cX13_enemies 25 = .ok (.bipush 12, 2) := by decide +kernel
theorem dX13_enemies_27 : decode cX13_enemies 27 = .ok (.iload_n 1, 1) := by decide +kernel
theorem dX13_enemies_28 : decode cX13_enemies 28 = .ok (.imul, 1) := by decide +kernel
theorem dX13_enemies_29 : decode cX13_enemies 29 = .ok (.iload_n 2, 1) := by decide +kernel
theorem dX13_enemies_30 : decode cX13_enemies 30 = .ok (.iadd, 1) := by decide +kernel
theorem dX13_enemies_31 : decode cX13_enemies 31 = .ok (.baload, 1) := by decide +kernel
theorem dX13_enemies_32 : decode cX13_enemies 32 = .ok (.ifCond .eq 5, 3) := by decide +kernel
theorem dX13_enemies_35 : decode cX13_enemies 35 = .ok (.iconst 0, 1) := by decide +kernel
theorem dX13_enemies_36 : decode cX13_enemies 36 = .ok (.ireturn, 1) := by decide +kernel
theorem dX13_enemies_37 : decode cX13_enemies 37 = .ok (.aload_n 0, 1) := by decide +kernel
theorem dX13_enemies_38 : decode cX13_enemies 38 = .ok (.getfield 132, 3) := by decide +kernel
theorem dX13_enemies_41 : decode cX13_enemies 41 = .ok (.bipush 12, 2) := by decide +kernel
theorem dX13_enemies_43 : decode cX13_enemies 43 = .ok (.iload_n 1, 1) := by decide +kernel
theorem dX13_enemies_44 : decode cX13_enemies 44 = .ok (.imul, 1) := by decide +kernel
theorem dX13_enemies_45 : decode cX13_enemies 45 = .ok (.iload_n 2, 1) := by decide +kernel
theorem dX13_enemies_46 : decode cX13_enemies 46 = .ok (.iadd, 1) := by decide +kernel
theorem dX13_enemies_47 : decode cX13_enemies 47 = .ok (.iconst 1, 1) := by decide +kernel
theorem dX13_enemies_48 : decode cX13_enemies 48 = .ok (.bastore, 1) := by decide +kernel
theorem dX13_enemies_49 : decode cX13_enemies 49 = .ok (.aload_n 0, 1) := by decide +kernel
theorem dX13_enemies_50 : decode cX13_enemies 50 = .ok (.getfield 132, 3) := by decide +kernel
theorem dX13_enemies_53 : decode cX13_enemies 53 = .ok (.bipush 12, 2) := by decide +kernel
theorem dX13_enemies_55 : decode cX13_enemies 55 = .ok (.iload_n 2, 1) := by decide +kernel
theorem dX13_enemies_56 : decode cX13_enemies 56 = .ok (.imul, 1) := by decide +kernel
theorem dX13_enemies_57 : decode cX13_enemies 57 = .ok (.iload_n 1, 1) := by decide +kernel
theorem dX13_enemies_58 : decode cX13_enemies 58 = .ok (.iadd, 1) := by decide +kernel
theorem dX13_enemies_59 : decode cX13_enemies 59 = .ok (.iconst 1, 1) := by decide +kernel
theorem dX13_enemies_60 : decode cX13_enemies 60 = .ok (.bastore, 1) := by decide +kernel
theorem dX13_enemies_61 : decode cX13_enemies 61 = .ok (.iconst 1, 1) := by decide +kernel
theorem dX13_enemies_62 : decode cX13_enemies 62 = .ok (.ireturn, 1) := by decide +kernel
theorem dX13_linesOf_0 : decode cX13_linesOf 0 = .ok (.iconst 0, 1) := by decide +kernel
theorem dX13_linesOf_1 : decode cX13_linesOf 1 = .ok (.istore_n 2, 1) := by decide +kernel
theorem dX13_linesOf_2 : decode cX13_linesOf 2 = .ok (.iconst 0, 1) := by decide +kernel
theorem dX13_linesOf_3 : decode cX13_linesOf 3 = .ok (.istore_n 3, 1) := by decide +kernel
theorem dX13_linesOf_4 : decode cX13_linesOf 4 = .ok (.iload_n 3, 1) := by decide +kernel
theorem dX13_linesOf_5 : decode cX13_linesOf 5 = .ok (.aload_n 0, 1) := by decide +kernel
theorem dX13_linesOf_6 : decode cX13_linesOf 6 = .ok (.getfield 452, 3) := by decide +kernel
theorem dX13_linesOf_9 : decode cX13_linesOf 9 = .ok (.if_icmp .ge 27, 3) := by decide +kernel
theorem dX13_linesOf_12 : decode cX13_linesOf 12 = .ok (.iload_n 2, 1) := by decide +kernel
theorem dX13_linesOf_13 : decode cX13_linesOf 13 = .ok (.aload_n 0, 1) := by decide +kernel
theorem dX13_linesOf_14 : decode cX13_linesOf 14 = .ok (.getfield 135, 3) := by decide +kernel
theorem dX13_linesOf_17 : decode cX13_linesOf 17 = .ok (.iload_n 3, 1) := by decide +kernel
theorem dX13_linesOf_18 : decode cX13_linesOf 18 = .ok (.iaload, 1) := by decide +kernel
theorem dX13_linesOf_19 : decode cX13_linesOf 19 = .ok (.iload_n 1, 1) := by decide +kernel
theorem dX13_linesOf_20 : decode cX13_linesOf 20 = .ok (.if_icmp .ne 7, 3) := by decide +kernel
theorem dX13_linesOf_23 : decode cX13_linesOf 23 = .ok (.iconst 1, 1) := by decide +kernel
theorem dX13_linesOf_24 : decode cX13_linesOf 24 = .ok (.goto 4, 3) := by decide +kernel
theorem dX13_linesOf_27 : decode cX13_linesOf 27 = .ok (.iconst 0, 1) := by decide +kernel
theorem dX13_linesOf_28 : decode cX13_linesOf 28 = .ok (.iadd, 1) := by decide +kernel
theorem dX13_linesOf_29 : decode cX13_linesOf 29 = .ok (.istore_n 2, 1) := by decide +kernel
theorem dX13_linesOf_30 : decode cX13_linesOf 30 = .ok (.iinc 3 1, 3) := by decide +kernel
theorem dX13_linesOf_33 : decode cX13_linesOf 33 = .ok (.goto (-29), 3) := by decide +kernel
theorem dX13_linesOf_36 : decode cX13_linesOf 36 = .ok (.iload_n 2, 1) := by decide +kernel
theorem dX13_linesOf_37 : decode cX13_linesOf 37 = .ok (.ireturn, 1) := by decide +kernel
theorem dX13_isDone_0 : decode cX13_isDone 0 = .ok (.aload_n 0, 1) := by decide +kernel
theorem dX13_isDone_1 : decode cX13_isDone 1 = .ok (.getfield 90, 3) := by decide +kernel
theorem dX13_isDone_4 : decode cX13_isDone 4 = .ok (.iload_n 1, 1) := by decide +kernel
theorem dX13_isDone_5 : decode cX13_isDone 5 = .ok (.iaload, 1) := by decide +kernel
theorem dX13_isDone_6 : decode cX13_isDone 6 = .ok (.ifCond .ne 21, 3) := by decide +kernel
theorem dX13_isDone_9 : decode cX13_isDone 9 = .ok (.aload_n 0, 1) := by decide +kernel
theorem dX13_isDone_10 : decode cX13_isDone 10 = .ok (.iload_n 1, 1) := by decide +kernel
theorem dX13_isDone_11 : decode cX13_isDone 11 = .ok (.invokevirtual 455, 3) := by decide +kernel
theorem dX13_isDone_14 : decode cX13_isDone 14 = .ok (.aload_n 0, 1) := by decide +kernel
theorem dX13_isDone_15 : decode cX13_isDone 15 = .ok (.getfield 99, 3) := by decide +kernel
theorem dX13_isDone_18 : decode cX13_isDone 18 = .ok (.iload_n 1, 1) := by decide +kernel
theorem dX13_isDone_19 : decode cX13_isDone 19 = .ok (.iaload, 1) := by decide +kernel
theorem dX13_isDone_20 : decode cX13_isDone 20 = .ok (.if_icmp .ne 7, 3) := by decide +kernel
theorem dX13_isDone_23 : decode cX13_isDone 23 = .ok (.iconst 1, 1) := by decide +kernel
theorem dX13_isDone_24 : decode cX13_isDone 24 = .ok (.goto 4, 3) := by decide +kernel
theorem dX13_isDone_27 : decode cX13_isDone 27 = .ok (.iconst 0, 1) := by decide +kernel
theorem dX13_isDone_28 : decode cX13_isDone 28 = .ok (.ireturn, 1) := by decide +kernel
theorem dX13_factsOf_0 : decode cX13_factsOf 0 = .ok (.iconst 0, 1) := by decide +kernel
theorem dX13_factsOf_1 : decode cX13_factsOf 1 = .ok (.istore_n 2, 1) := by decide +kernel
theorem dX13_factsOf_2 : decode cX13_factsOf 2 = .ok (.iconst 0, 1) := by decide +kernel
theorem dX13_factsOf_3 : decode cX13_factsOf 3 = .ok (.istore_n 3, 1) := by decide +kernel
theorem dX13_factsOf_4 : decode cX13_factsOf 4 = .ok (.iload_n 3, 1) := by decide +kernel
theorem dX13_factsOf_5 : decode cX13_factsOf 5 = .ok (.bipush 40, 2) := by decide +kernel
theorem dX13_factsOf_7 : decode cX13_factsOf 7 = .ok (.if_icmp .ge 77, 3) := by decide +kernel
theorem dX13_factsOf_10 : decode cX13_factsOf 10 = .ok (.iconst 0, 1) := by decide +kernel
theorem dX13_factsOf_11 : decode cX13_factsOf 11 = .ok (.istore 4, 2) := by decide +kernel
theorem dX13_factsOf_13 : decode cX13_factsOf 13 = .ok (.iconst 0, 1) := by decide +kernel
theorem dX13_factsOf_14 : decode cX13_factsOf 14 = .ok (.istore 5, 2) := by decide +kernel
theorem dX13_factsOf_16 : decode cX13_factsOf 16 = .ok (.iload 5, 2) := by decide +kernel
theorem dX13_factsOf_18 : decode cX13_factsOf 18 = .ok (.aload_n 0, 1) := by decide +kernel
theorem dX13_factsOf_19 : decode cX13_factsOf 19 = .ok (.getfield 452, 3) := by decide +kernel
theorem dX13_factsOf_22 : decode cX13_factsOf 22 = .ok (.if_icmp .ge 43, 3) := by decide +kernel
theorem dX13_factsOf_25 : decode cX13_factsOf 25 = .ok (.iload 4, 2) := by decide +kernel
theorem dX13_factsOf_27 : decode cX13_factsOf 27 = .ok (.ifCond .ne 38, 3) := by decide +kernel
theorem dX13_factsOf_30 : decode cX13_factsOf 30 = .ok (.aload_n 0, 1) := by decide +kernel
theorem dX13_factsOf_31 : decode cX13_factsOf 31 = .ok (.getfield 135, 3) := by decide +kernel
theorem dX13_factsOf_34 : decode cX13_factsOf 34 = .ok (.iload 5, 2) := by decide +kernel
theorem dX13_factsOf_36 : decode cX13_factsOf 36 = .ok (.iaload, 1) := by decide +kernel
theorem dX13_factsOf_37 : decode cX13_factsOf 37 = .ok (.iload_n 1, 1) := by decide +kernel
theorem dX13_factsOf_38 : decode cX13_factsOf 38 = .ok (.if_icmp .ne 18, 3) := by decide +kernel
theorem dX13_factsOf_41 : decode cX13_factsOf 41 = .ok (.aload_n 0, 1) := by decide +kernel
theorem dX13_factsOf_42 : decode cX13_factsOf 42 = .ok (.getfield 141, 3) := by decide +kernel
theorem dX13_factsOf_45 : decode cX13_factsOf 45 = .ok (.iload 5, 2) := by decide +kernel
theorem dX13_factsOf_47 : decode cX13_factsOf 47 = .ok (.iaload, 1) := by decide +kernel
theorem dX13_factsOf_48 : decode cX13_factsOf 48 = .ok (.iload_n 3, 1) := by decide +kernel
theorem dX13_factsOf_49 : decode cX13_factsOf 49 = .ok (.if_icmp .ne 7, 3) := by decide +kernel
theorem dX13_factsOf_52 : decode cX13_factsOf 52 = .ok (.iconst 1, 1) := by decide +kernel
theorem dX13_factsOf_53 : decode cX13_factsOf 53 = .ok (.goto 4, 3) := by decide +kernel
theorem dX13_factsOf_56 : decode cX13_factsOf 56 = .ok (.iconst 0, 1) := by decide +kernel
theorem dX13_factsOf_57 : decode cX13_factsOf 57 = .ok (.istore 4, 2) := by decide +kernel
theorem dX13_factsOf_59 : decode cX13_factsOf 59 = .ok (.iinc 5 1, 3) := by decide +kernel
theorem dX13_factsOf_62 : decode cX13_factsOf 62 = .ok (.goto (-46), 3) := by decide +kernel
theorem dX13_factsOf_65 : decode cX13_factsOf 65 = .ok (.iload_n 2, 1) := by decide +kernel
theorem dX13_factsOf_66 : decode cX13_factsOf 66 = .ok (.iload 4, 2) := by decide +kernel
theorem dX13_factsOf_68 : decode cX13_factsOf 68 = .ok (.ifCond .eq 7, 3) := by decide +kernel
theorem dX13_factsOf_71 : decode cX13_factsOf 71 = .ok (.iconst 1, 1) := by decide +kernel
theorem dX13_factsOf_72 : decode cX13_factsOf 72 = .ok (.goto 4, 3) := by decide +kernel
theorem dX13_factsOf_75 : decode cX13_factsOf 75 = .ok (.iconst 0, 1) := by decide +kernel
theorem dX13_factsOf_76 : decode cX13_factsOf 76 = .ok (.iadd, 1) := by decide +kernel
theorem dX13_factsOf_77 : decode cX13_factsOf 77 = .ok (.istore_n 2, 1) := by decide +kernel
theorem dX13_factsOf_78 : decode cX13_factsOf 78 = .ok (.iinc 3 1, 3) := by decide +kernel
theorem dX13_factsOf_81 : decode cX13_factsOf 81 = .ok (.goto (-77), 3) := by decide +kernel
theorem dX13_factsOf_84 : decode cX13_factsOf 84 = .ok (.iload_n 2, 1) := by decide +kernel
theorem dX13_factsOf_85 : decode cX13_factsOf 85 = .ok (.ireturn, 1) := by decide +kernel
theorem dX13_lateOf_0 : decode cX13_lateOf 0 = .ok (.iconst 0, 1) := by decide +kernel
theorem dX13_lateOf_1 : decode cX13_lateOf 1 = .ok (.istore_n 2, 1) := by decide +kernel
theorem dX13_lateOf_2 : decode cX13_lateOf 2 = .ok (.iconst 0, 1) := by decide +kernel
theorem dX13_lateOf_3 : decode cX13_lateOf 3 = .ok (.istore_n 3, 1) := by decide +kernel
theorem dX13_lateOf_4 : decode cX13_lateOf 4 = .ok (.iload_n 3, 1) := by decide +kernel
theorem dX13_lateOf_5 : decode cX13_lateOf 5 = .ok (.aload_n 0, 1) := by decide +kernel
theorem dX13_lateOf_6 : decode cX13_lateOf 6 = .ok (.getfield 418, 3) := by decide +kernel
theorem dX13_lateOf_9 : decode cX13_lateOf 9 = .ok (.if_icmp .ge 53, 3) := by decide +kernel
theorem dX13_lateOf_12 : decode cX13_lateOf 12 = .ok (.iload_n 2, 1) := by decide +kernel
theorem dX13_lateOf_13 : decode cX13_lateOf 13 = .ok (.aload_n 0, 1) := by decide +kernel
theorem dX13_lateOf_14 : decode cX13_lateOf 14 = .ok (.getfield 90, 3) := by decide +kernel
theorem dX13_lateOf_17 : decode cX13_lateOf 17 = .ok (.iload_n 3, 1) := by decide +kernel
theorem dX13_lateOf_18 : decode cX13_lateOf 18 = .ok (.iaload, 1) := by decide +kernel
theorem dX13_lateOf_19 : decode cX13_lateOf 19 = .ok (.ifCond .ne 34, 3) := by decide +kernel
theorem dX13_lateOf_22 : decode cX13_lateOf 22 = .ok (.aload_n 0, 1) := by decide +kernel
theorem dX13_lateOf_23 : decode cX13_lateOf 23 = .ok (.getfield 105, 3) := by decide +kernel
theorem dX13_lateOf_26 : decode cX13_lateOf 26 = .ok (.iload_n 3, 1) := by decide +kernel
theorem dX13_lateOf_27 : decode cX13_lateOf 27 = .ok (.iaload, 1) := by decide +kernel
theorem dX13_lateOf_28 : decode cX13_lateOf 28 = .ok (.iload_n 1, 1) := by decide +kernel
theorem dX13_lateOf_29 : decode cX13_lateOf 29 = .ok (.if_icmp .ne 24, 3) := by decide +kernel
theorem dX13_lateOf_32 : decode cX13_lateOf 32 = .ok (.aload_n 0, 1) := by decide +kernel
theorem dX13_lateOf_33 : decode cX13_lateOf 33 = .ok (.getfield 108, 3) := by decide +kernel
theorem dX13_lateOf_36 : decode cX13_lateOf 36 = .ok (.iload_n 3, 1) := by decide +kernel
theorem dX13_lateOf_37 : decode cX13_lateOf 37 = .ok (.baload, 1) := by decide +kernel
theorem dX13_lateOf_38 : decode cX13_lateOf 38 = .ok (.ifCond .ne 15, 3) := by decide +kernel
theorem dX13_lateOf_41 : decode cX13_lateOf 41 = .ok (.aload_n 0, 1) := by decide +kernel
theorem dX13_lateOf_42 : decode cX13_lateOf 42 = .ok (.iload_n 3, 1) := by decide +kernel
theorem dX13_lateOf_43 : decode cX13_lateOf 43 = .ok (.invokevirtual 458, 3) := by decide +kernel
theorem dX13_lateOf_46 : decode cX13_lateOf 46 = .ok (.ifCond .ne 7, 3) := by decide +kernel
theorem dX13_lateOf_49 : decode cX13_lateOf 49 = .ok (.iconst 1, 1) := by decide +kernel
theorem dX13_lateOf_50 : decode cX13_lateOf 50 = .ok (.goto 4, 3) := by decide +kernel
theorem dX13_lateOf_53 : decode cX13_lateOf 53 = .ok (.iconst 0, 1) := by decide +kernel
theorem dX13_lateOf_54 : decode cX13_lateOf 54 = .ok (.iadd, 1) := by decide +kernel
theorem dX13_lateOf_55 : decode cX13_lateOf 55 = .ok (.istore_n 2, 1) := by decide +kernel
theorem dX13_lateOf_56 : decode cX13_lateOf 56 = .ok (.iinc 3 1, 3) := by decide +kernel
theorem dX13_lateOf_59 : decode cX13_lateOf 59 = .ok (.goto (-55), 3) := by decide +kernel
theorem dX13_lateOf_62 : decode cX13_lateOf 62 = .ok (.iload_n 2, 1) := by decide +kernel
theorem dX13_lateOf_63 : decode cX13_lateOf 63 = .ok (.ireturn, 1) := by decide +kernel
theorem dX13_asks_0 : decode cX13_asks 0 = .ok (.aload_n 0, 1) := by decide +kernel
theorem dX13_asks_1 : decode cX13_asks 1 = .ok (.getfield 195, 3) := by decide +kernel
theorem dX13_asks_4 : decode cX13_asks 4 = .ok (.iconst 0, 1) := by decide +kernel
theorem dX13_asks_5 : decode cX13_asks 5 = .ok (.aload_n 0, 1) := by decide +kernel
theorem dX13_asks_6 : decode cX13_asks 6 = .ok (.getfield 99, 3) := by decide +kernel
theorem dX13_asks_9 : decode cX13_asks 9 = .ok (.iload_n 1, 1) := by decide +kernel
theorem dX13_asks_10 : decode cX13_asks 10 = .ok (.iaload, 1) := by decide +kernel
theorem dX13_asks_11 : decode cX13_asks 11 = .ok (.iastore, 1) := by decide +kernel
theorem dX13_asks_12 : decode cX13_asks 12 = .ok (.aload_n 0, 1) := by decide +kernel
theorem dX13_asks_13 : decode cX13_asks 13 = .ok (.getfield 195, 3) := by decide +kernel
theorem dX13_asks_16 : decode cX13_asks 16 = .ok (.iconst 1, 1) := by decide +kernel
theorem dX13_asks_17 : decode cX13_asks 17 = .ok (.aload_n 0, 1) := by decide +kernel
theorem dX13_asks_18 : decode cX13_asks 18 = .ok (.iload_n 1, 1) := by decide +kernel
theorem dX13_asks_19 : decode cX13_asks 19 = .ok (.invokevirtual 455, 3) := by decide +kernel
theorem dX13_asks_22 : decode cX13_asks 22 = .ok (.iastore, 1) := by decide +kernel
theorem dX13_asks_23 : decode cX13_asks 23 = .ok (.aload_n 0, 1) := by decide +kernel
theorem dX13_asks_24 : decode cX13_asks 24 = .ok (.getfield 195, 3) := by decide +kernel
theorem dX13_asks_27 : decode cX13_asks 27 = .ok (.iconst 2, 1) := by decide +kernel
theorem dX13_asks_28 : decode cX13_asks 28 = .ok (.aload_n 0, 1) := by decide +kernel
theorem dX13_asks_29 : decode cX13_asks 29 = .ok (.iload_n 1, 1) := by decide +kernel
theorem dX13_asks_30 : decode cX13_asks 30 = .ok (.invokevirtual 461, 3) := by decide +kernel
theorem dX13_asks_33 : decode cX13_asks 33 = .ok (.iastore, 1) := by decide +kernel
theorem dX13_asks_34 : decode cX13_asks 34 = .ok (.aload_n 0, 1) := by decide +kernel
theorem dX13_asks_35 : decode cX13_asks 35 = .ok (.getfield 195, 3) := by decide +kernel
theorem dX13_asks_38 : decode cX13_asks 38 = .ok (.iconst 3, 1) := by decide +kernel
theorem dX13_asks_39 : decode cX13_asks 39 = .ok (.iconst 0, 1) := by decide +kernel
theorem dX13_asks_40 : decode cX13_asks 40 = .ok (.iastore, 1) := by decide +kernel
theorem dX13_asks_41 : decode cX13_asks 41 = .ok (.iconst 0, 1) := by decide +kernel
theorem dX13_asks_42 : decode cX13_asks 42 = .ok (.istore_n 3, 1) := by decide +kernel
theorem dX13_asks_43 : decode cX13_asks 43 = .ok (.iload_n 3, 1) := by decide +kernel
theorem dX13_asks_44 : decode cX13_asks 44 = .ok (.aload_n 0, 1) := by decide +kernel
theorem dX13_asks_45 : decode cX13_asks 45 = .ok (.getfield 418, 3) := by decide +kernel
theorem dX13_asks_48 : decode cX13_asks 48 = .ok (.if_icmp .ge 52, 3) := by decide +kernel
theorem dX13_asks_51 : decode cX13_asks 51 = .ok (.aload_n 0, 1) := by decide +kernel
theorem dX13_asks_52 : decode cX13_asks 52 = .ok (.getfield 195, 3) := by decide +kernel
theorem dX13_asks_55 : decode cX13_asks 55 = .ok (.iconst 3, 1) := by decide +kernel
theorem dX13_asks_56 : decode cX13_asks 56 = .ok (.dup2, 1) := by decide +kernel
theorem dX13_asks_57 : decode cX13_asks 57 = .ok (.iaload, 1) := by decide +kernel
theorem dX13_asks_58 : decode cX13_asks 58 = .ok (.aload_n 0, 1) := by decide +kernel
theorem dX13_asks_59 : decode cX13_asks 59 = .ok (.getfield 90, 3) := by decide +kernel
theorem dX13_asks_62 : decode cX13_asks 62 = .ok (.iload_n 3, 1) := by decide +kernel
theorem dX13_asks_63 : decode cX13_asks 63 = .ok (.iaload, 1) := by decide +kernel
theorem dX13_asks_64 : decode cX13_asks 64 = .ok (.iconst 1, 1) := by decide +kernel
theorem dX13_asks_65 : decode cX13_asks 65 = .ok (.if_icmp .ne 26, 3) := by decide +kernel
theorem dX13_asks_68 : decode cX13_asks 68 = .ok (.aload_n 0, 1) := by decide +kernel
theorem dX13_asks_69 : decode cX13_asks 69 = .ok (.getfield 102, 3) := by decide +kernel
theorem dX13_asks_72 : decode cX13_asks 72 = .ok (.iload_n 3, 1) := by decide +kernel
theorem dX13_asks_73 : decode cX13_asks 73 = .ok (.iaload, 1) := by decide +kernel
theorem dX13_asks_74 : decode cX13_asks 74 = .ok (.iload_n 1, 1) := by decide +kernel
theorem dX13_asks_75 : decode cX13_asks 75 = .ok (.if_icmp .ne 16, 3) := by decide +kernel
theorem dX13_asks_78 : decode cX13_asks 78 = .ok (.aload_n 0, 1) := by decide +kernel
theorem dX13_asks_79 : decode cX13_asks 79 = .ok (.getfield 108, 3) := by decide +kernel
theorem dX13_asks_82 : decode cX13_asks 82 = .ok (.iload_n 3, 1) := by decide +kernel
theorem dX13_asks_83 : decode cX13_asks 83 = .ok (.baload, 1) := by decide +kernel
theorem dX13_asks_84 : decode cX13_asks 84 = .ok (.ifCond .ne 7, 3) := by decide +kernel
theorem dX13_asks_87 : decode cX13_asks 87 = .ok (.iconst 1, 1) := by decide +kernel
theorem dX13_asks_88 : decode cX13_asks 88 = .ok (.goto 4, 3) := by decide +kernel
theorem dX13_asks_91 : decode cX13_asks 91 = .ok (.iconst 0, 1) := by decide +kernel
theorem dX13_asks_92 : decode cX13_asks 92 = .ok (.iadd, 1) := by decide +kernel
theorem dX13_asks_93 : decode cX13_asks 93 = .ok (.iastore, 1) := by decide +kernel
theorem dX13_asks_94 : decode cX13_asks 94 = .ok (.iinc 3 1, 3) := by decide +kernel
theorem dX13_asks_97 : decode cX13_asks 97 = .ok (.goto (-54), 3) := by decide +kernel
theorem dX13_asks_100 : decode cX13_asks 100 = .ok (.aload_n 0, 1) := by decide +kernel
theorem dX13_asks_101 : decode cX13_asks 101 = .ok (.getfield 195, 3) := by decide +kernel
theorem dX13_asks_104 : decode cX13_asks 104 = .ok (.iconst 4, 1) := by decide +kernel
theorem dX13_asks_105 : decode cX13_asks 105 = .ok (.aload_n 0, 1) := by decide +kernel
theorem dX13_asks_106 : decode cX13_asks 106 = .ok (.getfield 96, 3) := by decide +kernel
theorem dX13_asks_109 : decode cX13_asks 109 = .ok (.iload_n 1, 1) := by decide +kernel
theorem dX13_asks_110 : decode cX13_asks 110 = .ok (.iaload, 1) := by decide +kernel
theorem dX13_asks_111 : decode cX13_asks 111 = .ok (.iastore, 1) := by decide +kernel
theorem dX13_asks_112 : decode cX13_asks 112 = .ok (.aload_n 0, 1) := by decide +kernel
theorem dX13_asks_113 : decode cX13_asks 113 = .ok (.getfield 195, 3) := by decide +kernel
theorem dX13_asks_116 : decode cX13_asks 116 = .ok (.bipush 7, 2) := by decide +kernel
theorem dX13_asks_118 : decode cX13_asks 118 = .ok (.aload_n 0, 1) := by decide +kernel
theorem dX13_asks_119 : decode cX13_asks 119 = .ok (.iload_n 1, 1) := by decide +kernel
theorem dX13_asks_120 : decode cX13_asks 120 = .ok (.invokevirtual 433, 3) := by decide +kernel
theorem dX13_asks_123 : decode cX13_asks 123 = .ok (.iastore, 1) := by decide +kernel
theorem dX13_asks_124 : decode cX13_asks 124 = .ok (.aload_n 0, 1) := by decide +kernel
theorem dX13_asks_125 : decode cX13_asks 125 = .ok (.getfield 195, 3) := by decide +kernel
theorem dX13_asks_128 : decode cX13_asks 128 = .ok (.iconst 5, 1) := by decide +kernel
theorem dX13_asks_129 : decode cX13_asks 129 = .ok (.iload_n 2, 1) := by decide +kernel
theorem dX13_asks_130 : decode cX13_asks 130 = .ok (.iconst (-1), 1) := by decide +kernel
theorem dX13_asks_131 : decode cX13_asks 131 = .ok (.if_icmp .ne 7, 3) := by decide +kernel
theorem dX13_asks_134 : decode cX13_asks 134 = .ok (.iconst 0, 1) := by decide +kernel
theorem dX13_asks_135 : decode cX13_asks 135 = .ok (.goto 9, 3) := by decide +kernel
theorem dX13_asks_138 : decode cX13_asks 138 = .ok (.aload_n 0, 1) := by decide +kernel
theorem dX13_asks_139 : decode cX13_asks 139 = .ok (.getfield 123, 3) := by decide +kernel
theorem dX13_asks_142 : decode cX13_asks 142 = .ok (.iload_n 2, 1) := by decide +kernel
theorem dX13_asks_143 : decode cX13_asks 143 = .ok (.iaload, 1) := by decide +kernel
theorem dX13_asks_144 : decode cX13_asks 144 = .ok (.iastore, 1) := by decide +kernel
theorem dX13_asks_145 : decode cX13_asks 145 = .ok (.aload_n 0, 1) := by decide +kernel
theorem dX13_asks_146 : decode cX13_asks 146 = .ok (.getfield 195, 3) := by decide +kernel
theorem dX13_asks_149 : decode cX13_asks 149 = .ok (.bipush 6, 2) := by decide +kernel
theorem dX13_asks_151 : decode cX13_asks 151 = .ok (.iload_n 2, 1) := by decide +kernel
theorem dX13_asks_152 : decode cX13_asks 152 = .ok (.iconst (-1), 1) := by decide +kernel
theorem dX13_asks_153 : decode cX13_asks 153 = .ok (.if_icmp .ne 7, 3) := by decide +kernel
theorem dX13_asks_156 : decode cX13_asks 156 = .ok (.iconst 0, 1) := by decide +kernel
theorem dX13_asks_157 : decode cX13_asks 157 = .ok (.goto 18, 3) := by decide +kernel
theorem dX13_asks_160 : decode cX13_asks 160 = .ok (.aload_n 0, 1) := by decide +kernel
theorem dX13_asks_161 : decode cX13_asks 161 = .ok (.getfield 383, 3) := by decide +kernel
theorem dX13_asks_164 : decode cX13_asks 164 = .ok (.aload_n 0, 1) := by decide +kernel
theorem dX13_asks_165 : decode cX13_asks 165 = .ok (.getfield 126, 3) := by decide +kernel
theorem dX13_asks_168 : decode cX13_asks 168 = .ok (.iload_n 2, 1) := by decide +kernel
theorem dX13_asks_169 : decode cX13_asks 169 = .ok (.iaload, 1) := by decide +kernel
theorem dX13_asks_170 : decode cX13_asks 170 = .ok (.isub, 1) := by decide +kernel
theorem dX13_asks_171 : decode cX13_asks 171 = .ok (.sipush 365, 3) := by decide +kernel
theorem dX13_asks_174 : decode cX13_asks 174 = .ok (.idiv, 1) := by decide +kernel
theorem dX13_asks_175 : decode cX13_asks 175 = .ok (.iastore, 1) := by decide +kernel
theorem dX13_asks_176 : decode cX13_asks 176 = .ok (.aload_n 0, 1) := by decide +kernel
theorem dX13_asks_177 : decode cX13_asks 177 = .ok (.getfield 195, 3) := by decide +kernel
theorem dX13_asks_180 : decode cX13_asks 180 = .ok (.bipush 8, 2) := by decide +kernel
theorem dX13_asks_182 : decode cX13_asks 182 = .ok (.iload_n 2, 1) := by decide +kernel
theorem dX13_asks_183 : decode cX13_asks 183 = .ok (.iconst (-1), 1) := by decide +kernel
theorem dX13_asks_184 : decode cX13_asks 184 = .ok (.if_icmp .ne 7, 3) := by decide +kernel
theorem dX13_asks_187 : decode cX13_asks 187 = .ok (.iconst 0, 1) := by decide +kernel
theorem dX13_asks_188 : decode cX13_asks 188 = .ok (.goto 8, 3) := by decide +kernel
theorem dX13_asks_191 : decode cX13_asks 191 = .ok (.aload_n 0, 1) := by decide +kernel
theorem dX13_asks_192 : decode cX13_asks 192 = .ok (.iload_n 2, 1) := by decide +kernel
theorem dX13_asks_193 : decode cX13_asks 193 = .ok (.invokevirtual 464, 3) := by decide +kernel
theorem dX13_asks_196 : decode cX13_asks 196 = .ok (.iastore, 1) := by decide +kernel
theorem dX13_asks_197 : decode cX13_asks 197 = .ok (.return_, 1) := by decide +kernel
theorem dX13_mayBeGiven_0 : decode cX13_mayBeGiven 0 = .ok (.aload_n 0, 1) := by decide +kernel
theorem dX13_mayBeGiven_1 : decode cX13_mayBeGiven 1 = .ok (.iload_n 1, 1) := by decide +kernel
theorem dX13_mayBeGiven_2 : decode cX13_mayBeGiven 2 = .ok (.invokevirtual 467, 3) := by decide +kernel
theorem dX13_mayBeGiven_5 : decode cX13_mayBeGiven 5 = .ok (.ifCond .eq 65, 3) := by decide +kernel
theorem dX13_mayBeGiven_8 : decode cX13_mayBeGiven 8 = .ok (.aload_n 0, 1) := by decide +kernel
theorem dX13_mayBeGiven_9 : decode cX13_mayBeGiven 9 = .ok (.getfield 108, 3) := by decide +kernel
theorem dX13_mayBeGiven_12 : decode cX13_mayBeGiven 12 = .ok (.iload_n 1, 1) := by decide +kernel
theorem dX13_mayBeGiven_13 : decode cX13_mayBeGiven 13 = .ok (.baload, 1) := by decide +kernel
theorem dX13_mayBeGiven_14 : decode cX13_mayBeGiven 14 = .ok (.ifCond .ne 56, 3) := by decide +kernel
theorem dX13_mayBeGiven_17 : decode cX13_mayBeGiven 17 = .ok (.aload_n 0, 1) := by decide +kernel
theorem dX13_mayBeGiven_18 : decode cX13_mayBeGiven 18 = .ok (.getfield 114, 3) := by decide +kernel
theorem dX13_mayBeGiven_21 : decode cX13_mayBeGiven 21 = .ok (.iload_n 1, 1) := by decide +kernel
theorem dX13_mayBeGiven_22 : decode cX13_mayBeGiven 22 = .ok (.iaload, 1) := by decide +kernel
theorem dX13_mayBeGiven_23 : decode cX13_mayBeGiven 23 = .ok (.iconst (-1), 1) := by decide +kernel
theorem dX13_mayBeGiven_24 : decode cX13_mayBeGiven 24 = .ok (.if_icmp .ne 46, 3) := by decide +kernel
theorem dX13_mayBeGiven_27 : decode cX13_mayBeGiven 27 = .ok (.aload_n 0, 1) := by decide +kernel
theorem dX13_mayBeGiven_28 : decode cX13_mayBeGiven 28 = .ok (.iload_n 1, 1) := by decide +kernel
theorem dX13_mayBeGiven_29 : decode cX13_mayBeGiven 29 = .ok (.invokevirtual 458, 3) := by decide +kernel
theorem dX13_mayBeGiven_32 : decode cX13_mayBeGiven 32 = .ok (.ifCond .ne 38, 3) := by decide +kernel
theorem dX13_mayBeGiven_35 : decode cX13_mayBeGiven 35 = .ok (.aload_n 0, 1) := by decide +kernel
theorem dX13_mayBeGiven_36 : decode cX13_mayBeGiven 36 = .ok (.iload_n 2, 1) := by decide +kernel
theorem dX13_mayBeGiven_37 : decode cX13_mayBeGiven 37 = .ok (.invokevirtual 449, 3) := by decide +kernel
theorem dX13_mayBeGiven_40 : decode cX13_mayBeGiven 40 = .ok (.ifCond .eq 30, 3) := by decide +kernel
theorem dX13_mayBeGiven_43 : decode cX13_mayBeGiven 43 = .ok (.aload_n 0, 1) := by decide +kernel
theorem dX13_mayBeGiven_44 : decode cX13_mayBeGiven 44 = .ok (.getfield 129, 3) := by decide +kernel
theorem dX13_mayBeGiven_47 : decode cX13_mayBeGiven 47 = .ok (.iload_n 2, 1) := by decide +kernel
theorem dX13_mayBeGiven_48 : decode cX13_mayBeGiven 48 = .ok (.baload, 1) := by decide +kernel
theorem dX13_mayBeGiven_49 : decode cX13_mayBeGiven 49 = .ok (.ifCond .ne 21, 3) := by decide +kernel
theorem dX13_mayBeGiven_52 : decode cX13_mayBeGiven 52 = .ok (.aload_n 0, 1) := by decide +kernel
theorem dX13_mayBeGiven_53 : decode cX13_mayBeGiven 53 = .ok (.getfield 120, 3) := by decide +kernel
theorem dX13_mayBeGiven_56 : decode cX13_mayBeGiven 56 = .ok (.iload_n 2, 1) := by decide +kernel
theorem dX13_mayBeGiven_57 : decode cX13_mayBeGiven 57 = .ok (.iaload, 1) := by decide +kernel
theorem dX13_mayBeGiven_58 : decode cX13_mayBeGiven 58 = .ok (.aload_n 0, 1) := by decide +kernel
theorem dX13_mayBeGiven_59 : decode cX13_mayBeGiven 59 = .ok (.getfield 96, 3) := by decide +kernel
theorem dX13_mayBeGiven_62 : decode cX13_mayBeGiven 62 = .ok (.iload_n 1, 1) := by decide +kernel
theorem dX13_mayBeGiven_63 : decode cX13_mayBeGiven 63 = .ok (.iaload, 1) := by decide +kernel
theorem dX13_mayBeGiven_64 : decode cX13_mayBeGiven 64 = .ok (.ishr, 1) := by decide +kernel
theorem dX13_mayBeGiven_65 : decode cX13_mayBeGiven 65 = .ok (.iconst 1, 1) := by decide +kernel
theorem dX13_mayBeGiven_66 : decode cX13_mayBeGiven 66 = .ok (.iand, 1) := by decide +kernel
theorem dX13_mayBeGiven_67 : decode cX13_mayBeGiven 67 = .ok (.ifCond .ne 5, 3) := by decide +kernel
theorem dX13_mayBeGiven_70 : decode cX13_mayBeGiven 70 = .ok (.iconst 0, 1) := by decide +kernel
theorem dX13_mayBeGiven_71 : decode cX13_mayBeGiven 71 = .ok (.ireturn, 1) := by decide +kernel
theorem dX13_mayBeGiven_72 : decode cX13_mayBeGiven 72 = .ok (.iconst 0, 1) := by decide +kernel
theorem dX13_mayBeGiven_73 : decode cX13_mayBeGiven 73 = .ok (.istore_n 3, 1) := by decide +kernel
theorem dX13_mayBeGiven_74 : decode cX13_mayBeGiven 74 = .ok (.iload_n 3, 1) := by decide +kernel
theorem dX13_mayBeGiven_75 : decode cX13_mayBeGiven 75 = .ok (.aload_n 0, 1) := by decide +kernel
theorem dX13_mayBeGiven_76 : decode cX13_mayBeGiven 76 = .ok (.getfield 452, 3) := by decide +kernel
theorem dX13_mayBeGiven_79 : decode cX13_mayBeGiven 79 = .ok (.if_icmp .ge 40, 3) := by decide +kernel
theorem dX13_mayBeGiven_82 : decode cX13_mayBeGiven 82 = .ok (.aload_n 0, 1) := by decide +kernel
theorem dX13_mayBeGiven_83 : decode cX13_mayBeGiven 83 = .ok (.getfield 135, 3) := by decide +kernel
theorem dX13_mayBeGiven_86 : decode cX13_mayBeGiven 86 = .ok (.iload_n 3, 1) := by decide +kernel
theorem dX13_mayBeGiven_87 : decode cX13_mayBeGiven 87 = .ok (.iaload, 1) := by decide +kernel
theorem dX13_mayBeGiven_88 : decode cX13_mayBeGiven 88 = .ok (.iload_n 1, 1) := by decide +kernel
theorem dX13_mayBeGiven_89 : decode cX13_mayBeGiven 89 = .ok (.if_icmp .ne 24, 3) := by decide +kernel
theorem dX13_mayBeGiven_92 : decode cX13_mayBeGiven 92 = .ok (.aload_n 0, 1) := by decide +kernel
theorem dX13_mayBeGiven_93 : decode cX13_mayBeGiven 93 = .ok (.getfield 132, 3) := by decide +kernel
theorem dX13_mayBeGiven_96 : decode cX13_mayBeGiven 96 = .ok (.bipush 12, 2) := by decide +kernel
theorem dX13_mayBeGiven_98 : decode cX13_mayBeGiven 98 = .ok (.iload_n 2, 1) := by decide +kernel
theorem dX13_mayBeGiven_99 : decode cX13_mayBeGiven 99 = .ok (.imul, 1) := by decide +kernel
theorem dX13_mayBeGiven_100 : decode cX13_mayBeGiven 100 = .ok (.aload_n 0, 1) := by decide +kernel
theorem dX13_mayBeGiven_101 : decode cX13_mayBeGiven 101 = .ok (.getfield 138, 3) := by decide +kernel
theorem dX13_mayBeGiven_104 : decode cX13_mayBeGiven 104 = .ok (.iload_n 3, 1) := by decide +kernel
theorem dX13_mayBeGiven_105 : decode cX13_mayBeGiven 105 = .ok (.iaload, 1) := by decide +kernel
theorem dX13_mayBeGiven_106 : decode cX13_mayBeGiven 106 = .ok (.iadd, 1) := by decide +kernel
theorem dX13_mayBeGiven_107 : decode cX13_mayBeGiven 107 = .ok (.baload, 1) := by decide +kernel
theorem dX13_mayBeGiven_108 : decode cX13_mayBeGiven 108 = .ok (.ifCond .eq 5, 3) := by decide +kernel
theorem dX13_mayBeGiven_111 : decode cX13_mayBeGiven 111 = .ok (.iconst 0, 1) := by decide +kernel
theorem dX13_mayBeGiven_112 : decode cX13_mayBeGiven 112 = .ok (.ireturn, 1) := by decide +kernel
theorem dX13_mayBeGiven_113 : decode cX13_mayBeGiven 113 = .ok (.iinc 3 1, 3) := by decide +kernel
theorem dX13_mayBeGiven_116 : decode cX13_mayBeGiven 116 = .ok (.goto (-42), 3) := by decide +kernel
theorem dX13_mayBeGiven_119 : decode cX13_mayBeGiven 119 = .ok (.aload_n 0, 1) := by decide +kernel
theorem dX13_mayBeGiven_120 : decode cX13_mayBeGiven 120 = .ok (.iload_n 1, 1) := by decide +kernel
theorem dX13_mayBeGiven_121 : decode cX13_mayBeGiven 121 = .ok (.iload_n 2, 1) := by decide +kernel
theorem dX13_mayBeGiven_122 : decode cX13_mayBeGiven 122 = .ok (.invokevirtual 470, 3) := by decide +kernel
theorem dX13_mayBeGiven_125 : decode cX13_mayBeGiven 125 = .ok (.aload_n 0, 1) := by decide +kernel
theorem dX13_mayBeGiven_126 : decode cX13_mayBeGiven 126 = .ok (.iconst 2, 1) := by decide +kernel
theorem dX13_mayBeGiven_127 : decode cX13_mayBeGiven 127 = .ok (.aload_n 0, 1) := by decide +kernel
theorem dX13_mayBeGiven_128 : decode cX13_mayBeGiven 128 = .ok (.iload_n 1, 1) := by decide +kernel
theorem dX13_mayBeGiven_129 : decode cX13_mayBeGiven 129 = .ok (.invokevirtual 433, 3) := by decide +kernel
theorem dX13_mayBeGiven_132 : decode cX13_mayBeGiven 132 = .ok (.aload_n 0, 1) := by decide +kernel
theorem dX13_mayBeGiven_133 : decode cX13_mayBeGiven 133 = .ok (.getfield 383, 3) := by decide +kernel
theorem dX13_mayBeGiven_136 : decode cX13_mayBeGiven 136 = .ok (.invokevirtual 404, 3) := by decide +kernel
theorem dX13_mayBeGiven_139 : decode cX13_mayBeGiven 139 = .ok (.ifCond .eq 7, 3) := by decide +kernel
theorem dX13_mayBeGiven_142 : decode cX13_mayBeGiven 142 = .ok (.iconst 1, 1) := by decide +kernel
theorem dX13_mayBeGiven_143 : decode cX13_mayBeGiven 143 = .ok (.goto 4, 3) := by decide +kernel
theorem dX13_mayBeGiven_146 : decode cX13_mayBeGiven 146 = .ok (.iconst 0, 1) := by decide +kernel
theorem dX13_mayBeGiven_147 : decode cX13_mayBeGiven 147 = .ok (.ireturn, 1) := by decide +kernel
theorem dX13_give_0 : decode cX13_give 0 = .ok (.aload_n 0, 1) := by decide +kernel
theorem dX13_give_1 : decode cX13_give 1 = .ok (.iload_n 1, 1) := by decide +kernel
theorem dX13_give_2 : decode cX13_give 2 = .ok (.iload_n 2, 1) := by decide +kernel
theorem dX13_give_3 : decode cX13_give 3 = .ok (.invokevirtual 473, 3) := by decide +kernel
theorem dX13_give_6 : decode cX13_give 6 = .ok (.ifCond .ne 5, 3) := by decide +kernel
theorem dX13_give_9 : decode cX13_give 9 = .ok (.iconst 0, 1) := by decide +kernel
theorem dX13_give_10 : decode cX13_give 10 = .ok (.ireturn, 1) := by decide +kernel
theorem dX13_give_11 : decode cX13_give 11 = .ok (.aload_n 0, 1) := by decide +kernel
theorem dX13_give_12 : decode cX13_give 12 = .ok (.getfield 105, 3) := by decide +kernel
theorem dX13_give_15 : decode cX13_give 15 = .ok (.iload_n 1, 1) := by decide +kernel
theorem dX13_give_16 : decode cX13_give 16 = .ok (.iload_n 2, 1) := by decide +kernel
theorem dX13_give_17 : decode cX13_give 17 = .ok (.iastore, 1) := by decide +kernel
theorem dX13_give_18 : decode cX13_give 18 = .ok (.iconst 1, 1) := by decide +kernel
theorem dX13_give_19 : decode cX13_give 19 = .ok (.ireturn, 1) := by decide +kernel
theorem dX13_knownOf_0 : decode cX13_knownOf 0 = .ok (.aload_n 0, 1) := by decide +kernel
theorem dX13_knownOf_1 : decode cX13_knownOf 1 = .ok (.getfield 476, 3) := by decide +kernel
theorem dX13_knownOf_4 : decode cX13_knownOf 4 = .ok (.iconst 1, 1) := by decide +kernel
theorem dX13_knownOf_5 : decode cX13_knownOf 5 = .ok (.isub, 1) := by decide +kernel
theorem dX13_knownOf_6 : decode cX13_knownOf 6 = .ok (.istore_n 3, 1) := by decide +kernel
theorem dX13_knownOf_7 : decode cX13_knownOf 7 = .ok (.iload_n 3, 1) := by decide +kernel
theorem dX13_knownOf_8 : decode cX13_knownOf 8 = .ok (.ifCond .lt 31, 3) := by decide +kernel
theorem dX13_knownOf_11 : decode cX13_knownOf 11 = .ok (.aload_n 0, 1) := by decide +kernel
theorem dX13_knownOf_12 : decode cX13_knownOf 12 = .ok (.getfield 162, 3) := by decide +kernel
theorem dX13_knownOf_15 : decode cX13_knownOf 15 = .ok (.iload_n 3, 1) := by decide +kernel
theorem dX13_knownOf_16 : decode cX13_knownOf 16 = .ok (.iaload, 1) := by decide +kernel
theorem dX13_knownOf_17 : decode cX13_knownOf 17 = .ok (.iload_n 1, 1) := by decide +kernel
theorem dX13_knownOf_18 : decode cX13_knownOf 18 = .ok (.if_icmp .ne 15, 3) := by decide +kernel
theorem dX13_knownOf_21 : decode cX13_knownOf 21 = .ok (.aload_n 0, 1) := by decide +kernel
theorem dX13_knownOf_22 : decode cX13_knownOf 22 = .ok (.getfield 171, 3) := by decide +kernel
theorem dX13_knownOf_25 : decode cX13_knownOf 25 = .ok (.iload_n 3, 1) := by decide +kernel
theorem dX13_knownOf_26 : decode cX13_knownOf 26 = .ok (.iaload, 1) := by decide +kernel
theorem dX13_knownOf_27 : decode cX13_knownOf 27 = .ok (.iload_n 2, 1) := by decide +kernel
theorem dX13_knownOf_28 : decode cX13_knownOf 28 = .ok (.if_icmp .gt 5, 3) := by decide +kernel
theorem dX13_knownOf_31 : decode cX13_knownOf 31 = .ok (.iload_n 3, 1) := by decide +kernel
theorem dX13_knownOf_32 : decode cX13_knownOf 32 = .ok (.ireturn, 1) := by decide +kernel
theorem dX13_knownOf_33 : decode cX13_knownOf 33 = .ok (.iinc 3 (-1), 3) := by decide +kernel
theorem dX13_knownOf_36 : decode cX13_knownOf 36 = .ok (.goto (-29), 3) := by decide +kernel
theorem dX13_knownOf_39 : decode cX13_knownOf 39 = .ok (.iconst (-1), 1) := by decide +kernel
theorem dX13_knownOf_40 : decode cX13_knownOf 40 = .ok (.ireturn, 1) := by decide +kernel
theorem dX13_valueOf_0 : decode cX13_valueOf 0 = .ok (.aload_n 0, 1) := by decide +kernel
theorem dX13_valueOf_1 : decode cX13_valueOf 1 = .ok (.iload_n 1, 1) := by decide +kernel
theorem dX13_valueOf_2 : decode cX13_valueOf 2 = .ok (.iload_n 2, 1) := by decide +kernel
theorem dX13_valueOf_3 : decode cX13_valueOf 3 = .ok (.invokevirtual 479, 3) := by decide +kernel
theorem dX13_valueOf_6 : decode cX13_valueOf 6 = .ok (.istore_n 3, 1) := by decide +kernel
theorem dX13_valueOf_7 : decode cX13_valueOf 7 = .ok (.iload_n 3, 1) := by decide +kernel
theorem dX13_valueOf_8 : decode cX13_valueOf 8 = .ok (.iconst (-1), 1) := by decide +kernel
theorem dX13_valueOf_9 : decode cX13_valueOf 9 = .ok (.if_icmp .ne 7, 3) := by decide +kernel
theorem dX13_valueOf_12 : decode cX13_valueOf 12 = .ok (.iconst (-1), 1) := by decide +kernel
theorem dX13_valueOf_13 : decode cX13_valueOf 13 = .ok (.goto 9, 3) := by decide +kernel
theorem dX13_valueOf_16 : decode cX13_valueOf 16 = .ok (.aload_n 0, 1) := by decide +kernel
theorem dX13_valueOf_17 : decode cX13_valueOf 17 = .ok (.getfield 165, 3) := by decide +kernel
theorem dX13_valueOf_20 : decode cX13_valueOf 20 = .ok (.iload_n 3, 1) := by decide +kernel
theorem dX13_valueOf_21 : decode cX13_valueOf 21 = .ok (.iaload, 1) := by decide +kernel
theorem dX13_valueOf_22 : decode cX13_valueOf 22 = .ok (.ireturn, 1) := by decide +kernel
theorem dX13_line_0 : decode cX13_line 0 = .ok (.aload_n 0, 1) := by decide +kernel
theorem dX13_line_1 : decode cX13_line 1 = .ok (.iload_n 1, 1) := by decide +kernel
theorem dX13_line_2 : decode cX13_line 2 = .ok (.invokevirtual 467, 3) := by decide +kernel
theorem dX13_line_5 : decode cX13_line 5 = .ok (.ifCond .eq 74, 3) := by decide +kernel
theorem dX13_line_8 : decode cX13_line 8 = .ok (.aload_n 0, 1) := by decide +kernel
theorem dX13_line_9 : decode cX13_line 9 = .ok (.getfield 105, 3) := by decide +kernel
theorem dX13_line_12 : decode cX13_line 12 = .ok (.iload_n 1, 1) := by decide +kernel
theorem dX13_line_13 : decode cX13_line 13 = .ok (.iaload, 1) := by decide +kernel
theorem dX13_line_14 : decode cX13_line 14 = .ok (.iconst (-1), 1) := by decide +kernel
theorem dX13_line_15 : decode cX13_line 15 = .ok (.if_icmp .eq 64, 3) := by decide +kernel
theorem dX13_line_18 : decode cX13_line 18 = .ok (.aload_n 0, 1) := by decide +kernel
theorem dX13_line_19 : decode cX13_line 19 = .ok (.getfield 129, 3) := by decide +kernel
theorem dX13_line_22 : decode cX13_line 22 = .ok (.aload_n 0, 1) := by decide +kernel
theorem dX13_line_23 : decode cX13_line 23 = .ok (.getfield 105, 3) := by decide +kernel
theorem dX13_line_26 : decode cX13_line 26 = .ok (.iload_n 1, 1) := by decide +kernel
theorem dX13_line_27 : decode cX13_line 27 = .ok (.iaload, 1) := by decide +kernel
theorem dX13_line_28 : decode cX13_line 28 = .ok (.baload, 1) := by decide +kernel
theorem dX13_line_29 : decode cX13_line 29 = .ok (.ifCond .ne 50, 3) := by decide +kernel
theorem dX13_line_32 : decode cX13_line 32 = .ok (.aload_n 0, 1) := by decide +kernel
theorem dX13_line_33 : decode cX13_line 33 = .ok (.getfield 108, 3) := by decide +kernel
theorem dX13_line_36 : decode cX13_line 36 = .ok (.iload_n 1, 1) := by decide +kernel
theorem dX13_line_37 : decode cX13_line 37 = .ok (.baload, 1) := by decide +kernel
theorem dX13_line_38 : decode cX13_line 38 = .ok (.ifCond .ne 41, 3) := by decide +kernel
theorem dX13_line_41 : decode cX13_line 41 = .ok (.aload_n 0, 1) := by decide +kernel
theorem dX13_line_42 : decode cX13_line 42 = .ok (.iload_n 1, 1) := by decide +kernel
theorem dX13_line_43 : decode cX13_line 43 = .ok (.invokevirtual 458, 3) := by decide +kernel
theorem dX13_line_46 : decode cX13_line 46 = .ok (.ifCond .ne 33, 3) := by decide +kernel
theorem dX13_line_49 : decode cX13_line 49 = .ok (.aload_n 0, 1) := by decide +kernel
theorem dX13_line_50 : decode cX13_line 50 = .ok (.iload_n 1, 1) := by decide +kernel
theorem dX13_line_51 : decode cX13_line 51 = .ok (.invokevirtual 433, 3) := by decide +kernel
theorem dX13_line_54 : decode cX13_line 54 = .ok (.bipush 6, 2) := by decide +kernel
theorem dX13_line_56 : decode cX13_line 56 = .ok (.if_icmp .eq 23, 3) := by decide +kernel
theorem dX13_line_59 : decode cX13_line 59 = .ok (.iload_n 3, 1) := by decide +kernel
theorem dX13_line_60 : decode cX13_line 60 = .ok (.iconst 0, 1) := by decide +kernel
theorem dX13_line_61 : decode cX13_line 61 = .ok (.bipush 30, 2) := by decide +kernel
theorem dX13_line_63 : decode cX13_line 63 = .ok (.invokestatic 256, 3) := by decide +kernel
theorem dX13_line_66 : decode cX13_line 66 = .ok (.ifCond .eq 13, 3) := by decide +kernel
theorem dX13_line_69 : decode cX13_line 69 = .ok (.aload_n 0, 1) := by decide +kernel
theorem dX13_line_70 : decode cX13_line 70 = .ok (.getfield 452, 3) := by decide +kernel
theorem dX13_line_73 : decode cX13_line 73 = .ok (.sipush 300, 3) := by decide +kernel
theorem dX13_line_76 : decode cX13_line 76 = .ok (.if_icmp .ne 5, 3) := by decide +kernel
theorem dX13_line_79 : decode cX13_line 79 = .ok (.iconst (-1), 1) := by decide +kernel
theorem dX13_line_80 : decode cX13_line 80 = .ok (.ireturn, 1) := by decide +kernel
theorem dX13_line_81 : decode cX13_line 81 = .ok (.iload_n 2, 1) := by decide +kernel
theorem dX13_line_82 : decode cX13_line 82 = .ok (.iconst 0, 1) := by decide +kernel
theorem dX13_line_83 : decode cX13_line 83 = .ok (.bipush 39, 2) := by decide +kernel
theorem dX13_line_85 : decode cX13_line 85 = .ok (.invokestatic 256, 3) := by decide +kernel
theorem dX13_line_88 : decode cX13_line 88 = .ok (.ifCond .eq 20, 3) := by decide +kernel
theorem dX13_line_91 : decode cX13_line 91 = .ok (.aload_n 0, 1) := by decide +kernel
theorem dX13_line_92 : decode cX13_line 92 = .ok (.iload_n 2, 1) := by decide +kernel
theorem dX13_line_93 : decode cX13_line 93 = .ok (.aload_n 0, 1) := by decide +kernel
theorem dX13_line_94 : decode cX13_line 94 = .ok (.getfield 383, 3) := by decide +kernel
theorem dX13_line_97 : decode cX13_line 97 = .ok (.invokevirtual 482, 3) := by decide +kernel
theorem dX13_line_100 : decode cX13_line 100 = .ok (.iconst (-1), 1) := by decide +kernel
theorem dX13_line_101 : decode cX13_line 101 = .ok (.if_icmp .eq 7, 3) := by decide +kernel
theorem dX13_line_104 : decode cX13_line 104 = .ok (.iconst 1, 1) := by decide +kernel
theorem dX13_line_105 : decode cX13_line 105 = .ok (.goto 4, 3) := by decide +kernel
theorem dX13_line_108 : decode cX13_line 108 = .ok (.iconst 0, 1) := by decide +kernel
theorem dX13_line_109 : decode cX13_line 109 = .ok (.istore 4, 2) := by decide +kernel
theorem dX13_line_111 : decode cX13_line 111 = .ok (.iload_n 2, 1) := by decide +kernel
theorem dX13_line_112 : decode cX13_line 112 = .ok (.bipush 100, 2) := by decide +kernel
theorem dX13_line_114 : decode cX13_line 114 = .ok (.bipush 99, 2) := by decide +kernel
theorem dX13_line_116 : decode cX13_line 116 = .ok (.aload_n 0, 1) := by decide +kernel
theorem dX13_line_117 : decode cX13_line 117 = .ok (.getfield 452, 3) := by decide +kernel
theorem dX13_line_120 : decode cX13_line 120 = .ok (.iadd, 1) := by decide +kernel
theorem dX13_line_121 : decode cX13_line 121 = .ok (.invokestatic 256, 3) := by decide +kernel
theorem dX13_line_124 : decode cX13_line 124 = .ok (.istore 5, 2) := by decide +kernel
theorem dX13_line_126 : decode cX13_line 126 = .ok (.iload 4, 2) := by decide +kernel
theorem dX13_line_128 : decode cX13_line 128 = .ok (.ifCond .ne 15, 3) := by decide +kernel
theorem dX13_line_131 : decode cX13_line 131 = .ok (.iload 5, 2) := by decide +kernel
theorem dX13_line_133 : decode cX13_line 133 = .ok (.ifCond .ne 10, 3) := by decide +kernel
theorem dX13_line_136 : decode cX13_line 136 = .ok (.iload_n 2, 1) := by decide +kernel
theorem dX13_line_137 : decode cX13_line 137 = .ok (.iconst (-1), 1) := by decide +kernel
theorem dX13_line_138 : decode cX13_line 138 = .ok (.if_icmp .eq 5, 3) := by decide +kernel
theorem dX13_line_141 : decode cX13_line 141 = .ok (.iconst (-1), 1) := by decide +kernel
theorem dX13_line_142 : decode cX13_line 142 = .ok (.ireturn, 1) := by decide +kernel
theorem dX13_line_143 : decode cX13_line 143 = .ok (.aload_n 0, 1) := by decide +kernel
theorem dX13_line_144 : decode cX13_line 144 = .ok (.iload_n 1, 1) := by decide +kernel
theorem dX13_line_145 : decode cX13_line 145 = .ok (.aload_n 0, 1) := by decide +kernel
theorem dX13_line_146 : decode cX13_line 146 = .ok (.getfield 105, 3) := by decide +kernel
theorem dX13_line_149 : decode cX13_line 149 = .ok (.iload_n 1, 1) := by decide +kernel
theorem dX13_line_150 : decode cX13_line 150 = .ok (.iaload, 1) := by decide +kernel
theorem dX13_line_151 : decode cX13_line 151 = .ok (.invokevirtual 470, 3) := by decide +kernel
theorem dX13_line_154 : decode cX13_line 154 = .ok (.aload_n 0, 1) := by decide +kernel
theorem dX13_line_155 : decode cX13_line 155 = .ok (.bipush 11, 2) := by decide +kernel
theorem dX13_line_157 : decode cX13_line 157 = .ok (.aload_n 0, 1) := by decide +kernel
theorem dX13_line_158 : decode cX13_line 158 = .ok (.getfield 93, 3) := by decide +kernel
theorem dX13_line_161 : decode cX13_line 161 = .ok (.iload_n 1, 1) := by decide +kernel
theorem dX13_line_162 : decode cX13_line 162 = .ok (.iaload, 1) := by decide +kernel
theorem dX13_line_163 : decode cX13_line 163 = .ok (.iadd, 1) := by decide +kernel
theorem dX13_line_164 : decode cX13_line 164 = .ok (.aload_n 0, 1) := by decide +kernel
theorem dX13_line_165 : decode cX13_line 165 = .ok (.iload_n 1, 1) := by decide +kernel
theorem dX13_line_166 : decode cX13_line 166 = .ok (.invokevirtual 433, 3) := by decide +kernel
theorem dX13_line_169 : decode cX13_line 169 = .ok (.aload_n 0, 1) := by decide +kernel
theorem dX13_line_170 : decode cX13_line 170 = .ok (.getfield 383, 3) := by decide +kernel
theorem dX13_line_173 : decode cX13_line 173 = .ok (.invokevirtual 404, 3) := by decide +kernel
theorem dX13_line_176 : decode cX13_line 176 = .ok (.istore 6, 2) := by decide +kernel
theorem dX13_line_178 : decode cX13_line 178 = .ok (.aload_n 0, 1) := by decide +kernel
theorem dX13_line_179 : decode cX13_line 179 = .ok (.getfield 135, 3) := by decide +kernel
theorem dX13_line_182 : decode cX13_line 182 = .ok (.aload_n 0, 1) := by decide +kernel
theorem dX13_line_183 : decode cX13_line 183 = .ok (.getfield 452, 3) := by decide +kernel
theorem dX13_line_186 : decode cX13_line 186 = .ok (.iload_n 1, 1) := by decide +kernel
theorem dX13_line_187 : decode cX13_line 187 = .ok (.iastore, 1) := by decide +kernel
theorem dX13_line_188 : decode cX13_line 188 = .ok (.aload_n 0, 1) := by decide +kernel
theorem dX13_line_189 : decode cX13_line 189 = .ok (.getfield 138, 3) := by decide +kernel
theorem dX13_line_192 : decode cX13_line 192 = .ok (.aload_n 0, 1) := by decide +kernel
theorem dX13_line_193 : decode cX13_line 193 = .ok (.getfield 452, 3) := by decide +kernel
theorem dX13_line_196 : decode cX13_line 196 = .ok (.aload_n 0, 1) := by decide +kernel
theorem dX13_line_197 : decode cX13_line 197 = .ok (.getfield 105, 3) := by decide +kernel
theorem dX13_line_200 : decode cX13_line 200 = .ok (.iload_n 1, 1) := by decide +kernel
theorem dX13_line_201 : decode cX13_line 201 = .ok (.iaload, 1) := by decide +kernel
theorem dX13_line_202 : decode cX13_line 202 = .ok (.iastore, 1) := by decide +kernel
theorem dX13_line_203 : decode cX13_line 203 = .ok (.aload_n 0, 1) := by decide +kernel
theorem dX13_line_204 : decode cX13_line 204 = .ok (.getfield 141, 3) := by decide +kernel
theorem dX13_line_207 : decode cX13_line 207 = .ok (.aload_n 0, 1) := by decide +kernel
theorem dX13_line_208 : decode cX13_line 208 = .ok (.getfield 452, 3) := by decide +kernel
theorem dX13_line_211 : decode cX13_line 211 = .ok (.iload 4, 2) := by decide +kernel
theorem dX13_line_213 : decode cX13_line 213 = .ok (.ifCond .eq 7, 3) := by decide +kernel
theorem dX13_line_216 : decode cX13_line 216 = .ok (.iload_n 2, 1) := by decide +kernel
theorem dX13_line_217 : decode cX13_line 217 = .ok (.goto 4, 3) := by decide +kernel
theorem dX13_line_220 : decode cX13_line 220 = .ok (.iconst (-1), 1) := by decide +kernel
theorem dX13_line_221 : decode cX13_line 221 = .ok (.iastore, 1) := by decide +kernel
theorem dX13_line_222 : decode cX13_line 222 = .ok (.aload_n 0, 1) := by decide +kernel
theorem dX13_line_223 : decode cX13_line 223 = .ok (.getfield 144, 3) := by decide +kernel
theorem dX13_line_226 : decode cX13_line 226 = .ok (.aload_n 0, 1) := by decide +kernel
theorem dX13_line_227 : decode cX13_line 227 = .ok (.getfield 452, 3) := by decide +kernel
theorem dX13_line_230 : decode cX13_line 230 = .ok (.iload 5, 2) := by decide +kernel
theorem dX13_line_232 : decode cX13_line 232 = .ok (.ifCond .eq 10, 3) := by decide +kernel
theorem dX13_line_235 : decode cX13_line 235 = .ok (.iload_n 2, 1) := by decide +kernel
theorem dX13_line_236 : decode cX13_line 236 = .ok (.bipush 100, 2) := by decide +kernel
theorem dX13_line_238 : decode cX13_line 238 = .ok (.isub, 1) := by decide +kernel
theorem dX13_line_239 : decode cX13_line 239 = .ok (.goto 4, 3) := by decide +kernel
theorem dX13_line_242 : decode cX13_line 242 = .ok (.iconst (-1), 1) := by decide +kernel
theorem dX13_line_243 : decode cX13_line 243 = .ok (.iastore, 1) := by decide +kernel
theorem dX13_line_244 : decode cX13_line 244 = .ok (.aload_n 0, 1) := by decide +kernel
theorem dX13_line_245 : decode cX13_line 245 = .ok (.getfield 147, 3) := by decide +kernel
theorem dX13_line_248 : decode cX13_line 248 = .ok (.aload_n 0, 1) := by decide +kernel
theorem dX13_line_249 : decode cX13_line 249 = .ok (.getfield 452, 3) := by decide +kernel
theorem dX13_line_252 : decode cX13_line 252 = .ok (.iload 4, 2) := by decide +kernel
theorem dX13_line_254 : decode cX13_line 254 = .ok (.ifCond .eq 15, 3) := by decide +kernel
theorem dX13_line_257 : decode cX13_line 257 = .ok (.aload_n 0, 1) := by decide +kernel
theorem dX13_line_258 : decode cX13_line 258 = .ok (.iload_n 2, 1) := by decide +kernel
theorem dX13_line_259 : decode cX13_line 259 = .ok (.aload_n 0, 1) := by decide +kernel
theorem dX13_line_260 : decode cX13_line 260 = .ok (.getfield 383, 3) := by decide +kernel
theorem dX13_line_263 : decode cX13_line 263 = .ok (.invokevirtual 482, 3) := by decide +kernel
theorem dX13_line_266 : decode cX13_line 266 = .ok (.goto 4, 3) := by decide +kernel
theorem dX13_line_269 : decode cX13_line 269 = .ok (.iconst (-1), 1) := by decide +kernel
theorem dX13_line_270 : decode cX13_line 270 = .ok (.iastore, 1) := by decide +kernel
theorem dX13_line_271 : decode cX13_line 271 = .ok (.aload_n 0, 1) := by decide +kernel
theorem dX13_line_272 : decode cX13_line 272 = .ok (.getfield 150, 3) := by decide +kernel
theorem dX13_line_275 : decode cX13_line 275 = .ok (.aload_n 0, 1) := by decide +kernel
theorem dX13_line_276 : decode cX13_line 276 = .ok (.getfield 452, 3) := by decide +kernel
theorem dX13_line_279 : decode cX13_line 279 = .ok (.iload_n 3, 1) := by decide +kernel
theorem dX13_line_280 : decode cX13_line 280 = .ok (.iastore, 1) := by decide +kernel
theorem dX13_line_281 : decode cX13_line 281 = .ok (.aload_n 0, 1) := by decide +kernel
theorem dX13_line_282 : decode cX13_line 282 = .ok (.getfield 153, 3) := by decide +kernel
theorem dX13_line_285 : decode cX13_line 285 = .ok (.aload_n 0, 1) := by decide +kernel
theorem dX13_line_286 : decode cX13_line 286 = .ok (.getfield 452, 3) := by decide +kernel
theorem dX13_line_289 : decode cX13_line 289 = .ok (.iload 6, 2) := by decide +kernel
theorem dX13_line_291 : decode cX13_line 291 = .ok (.ifCond .ge 7, 3) := by decide +kernel
theorem dX13_line_294 : decode cX13_line 294 = .ok (.iconst 0, 1) := by decide +kernel
theorem dX13_line_295 : decode cX13_line 295 = .ok (.goto 5, 3) := by decide +kernel
theorem dX13_line_298 : decode cX13_line 298 = .ok (.iload 6, 2) := by decide +kernel
theorem dX13_line_300 : decode cX13_line 300 = .ok (.iastore, 1) := by decide +kernel
theorem dX13_line_301 : decode cX13_line 301 = .ok (.aload_n 0, 1) := by decide +kernel
theorem dX13_line_302 : decode cX13_line 302 = .ok (.getfield 156, 3) := by decide +kernel
theorem dX13_line_305 : decode cX13_line 305 = .ok (.aload_n 0, 1) := by decide +kernel
theorem dX13_line_306 : decode cX13_line 306 = .ok (.getfield 452, 3) := by decide +kernel
theorem dX13_line_309 : decode cX13_line 309 = .ok (.iconst (-1), 1) := by decide +kernel
theorem dX13_line_310 : decode cX13_line 310 = .ok (.iastore, 1) := by decide +kernel
theorem dX13_line_311 : decode cX13_line 311 = .ok (.aload_n 0, 1) := by decide +kernel
theorem dX13_line_312 : decode cX13_line 312 = .ok (.dup, 1) := by decide +kernel
theorem dX13_line_313 : decode cX13_line 313 = .ok (.getfield 452, 3) := by decide +kernel
theorem dX13_line_316 : decode cX13_line 316 = .ok (.iconst 1, 1) := by decide +kernel
theorem dX13_line_317 : decode cX13_line 317 = .ok (.iadd, 1) := by decide +kernel
theorem dX13_line_318 : decode cX13_line 318 = .ok (.putfield 452, 3) := by decide +kernel
theorem dX13_line_321 : decode cX13_line 321 = .ok (.aload_n 0, 1) := by decide +kernel
theorem dX13_line_322 : decode cX13_line 322 = .ok (.getfield 452, 3) := by decide +kernel
theorem dX13_line_325 : decode cX13_line 325 = .ok (.iconst 1, 1) := by decide +kernel
theorem dX13_line_326 : decode cX13_line 326 = .ok (.isub, 1) := by decide +kernel
theorem dX13_line_327 : decode cX13_line 327 = .ok (.ireturn, 1) := by decide +kernel
theorem dX13_hangs_0 : decode cX13_hangs 0 = .ok (.aload_n 0, 1) := by decide +kernel
theorem dX13_hangs_1 : decode cX13_hangs 1 = .ok (.getfield 90, 3) := by decide +kernel
theorem dX13_hangs_4 : decode cX13_hangs 4 = .ok (.iload_n 1, 1) := by decide +kernel
theorem dX13_hangs_5 : decode cX13_hangs 5 = .ok (.iaload, 1) := by decide +kernel
theorem dX13_hangs_6 : decode cX13_hangs 6 = .ok (.ifCond .ne 48, 3) := by decide +kernel
theorem dX13_hangs_9 : decode cX13_hangs 9 = .ok (.aload_n 0, 1) := by decide +kernel
theorem dX13_hangs_10 : decode cX13_hangs 10 = .ok (.getfield 105, 3) := by decide +kernel
theorem dX13_hangs_13 : decode cX13_hangs 13 = .ok (.iload_n 1, 1) := by decide +kernel
theorem dX13_hangs_14 : decode cX13_hangs 14 = .ok (.iaload, 1) := by decide +kernel
theorem dX13_hangs_15 : decode cX13_hangs 15 = .ok (.iconst (-1), 1) := by decide +kernel
theorem dX13_hangs_16 : decode cX13_hangs 16 = .ok (.if_icmp .eq 38, 3) := by decide +kernel
theorem dX13_hangs_19 : decode cX13_hangs 19 = .ok (.aload_n 0, 1) := by decide +kernel
theorem dX13_hangs_20 : decode cX13_hangs 20 = .ok (.getfield 129, 3) := by decide +kernel
theorem dX13_hangs_23 : decode cX13_hangs 23 = .ok (.aload_n 0, 1) := by decide +kernel
theorem dX13_hangs_24 : decode cX13_hangs 24 = .ok (.getfield 105, 3) := by decide +kernel
theorem dX13_hangs_27 : decode cX13_hangs 27 = .ok (.iload_n 1, 1) := by decide +kernel
theorem dX13_hangs_28 : decode cX13_hangs 28 = .ok (.iaload, 1) := by decide +kernel
theorem dX13_hangs_29 : decode cX13_hangs 29 = .ok (.baload, 1) := by decide +kernel
theorem dX13_hangs_30 : decode cX13_hangs 30 = .ok (.ifCond .eq 24, 3) := by decide +kernel
theorem dX13_hangs_33 : decode cX13_hangs 33 = .ok (.aload_n 0, 1) := by decide +kernel
theorem dX13_hangs_34 : decode cX13_hangs 34 = .ok (.getfield 108, 3) := by decide +kernel
theorem dX13_hangs_37 : decode cX13_hangs 37 = .ok (.iload_n 1, 1) := by decide +kernel
theorem dX13_hangs_38 : decode cX13_hangs 38 = .ok (.baload, 1) := by decide +kernel
theorem dX13_hangs_39 : decode cX13_hangs 39 = .ok (.ifCond .ne 15, 3) := by decide +kernel
theorem dX13_hangs_42 : decode cX13_hangs 42 = .ok (.aload_n 0, 1) := by decide +kernel
theorem dX13_hangs_43 : decode cX13_hangs 43 = .ok (.iload_n 1, 1) := by decide +kernel
theorem dX13_hangs_44 : decode cX13_hangs 44 = .ok (.invokevirtual 458, 3) := by decide +kernel
theorem dX13_hangs_47 : decode cX13_hangs 47 = .ok (.ifCond .ne 7, 3) := by decide +kernel
theorem dX13_hangs_50 : decode cX13_hangs 50 = .ok (.iconst 1, 1) := by decide +kernel
theorem dX13_hangs_51 : decode cX13_hangs 51 = .ok (.goto 4, 3) := by decide +kernel
theorem dX13_hangs_54 : decode cX13_hangs 54 = .ok (.iconst 0, 1) := by decide +kernel
theorem dX13_hangs_55 : decode cX13_hangs 55 = .ok (.ireturn, 1) := by decide +kernel
theorem dX13_die_0 : decode cX13_die 0 = .ok (.aload_n 0, 1) := by decide +kernel
theorem dX13_die_1 : decode cX13_die 1 = .ok (.iload_n 1, 1) := by decide +kernel
theorem dX13_die_2 : decode cX13_die 2 = .ok (.invokevirtual 449, 3) := by decide +kernel
theorem dX13_die_5 : decode cX13_die 5 = .ok (.ifCond .eq 12, 3) := by decide +kernel
theorem dX13_die_8 : decode cX13_die 8 = .ok (.aload_n 0, 1) := by decide +kernel
theorem dX13_die_9 : decode cX13_die 9 = .ok (.getfield 129, 3) := by decide +kernel
theorem dX13_die_12 : decode cX13_die 12 = .ok (.iload_n 1, 1) := by decide +kernel
theorem dX13_die_13 : decode cX13_die 13 = .ok (.baload, 1) := by decide +kernel
theorem dX13_die_14 : decode cX13_die 14 = .ok (.ifCond .eq 5, 3) := by decide +kernel
theorem dX13_die_17 : decode cX13_die 17 = .ok (.iconst (-1), 1) := by decide +kernel
theorem dX13_die_18 : decode cX13_die 18 = .ok (.ireturn, 1) := by decide +kernel
theorem dX13_die_19 : decode cX13_die 19 = .ok (.aload_n 0, 1) := by decide +kernel
theorem dX13_die_20 : decode cX13_die 20 = .ok (.getfield 129, 3) := by decide +kernel
theorem dX13_die_23 : decode cX13_die 23 = .ok (.iload_n 1, 1) := by decide +kernel
theorem dX13_die_24 : decode cX13_die 24 = .ok (.iconst 1, 1) := by decide +kernel
theorem dX13_die_25 : decode cX13_die 25 = .ok (.bastore, 1) := by decide +kernel
theorem dX13_die_26 : decode cX13_die 26 = .ok (.iconst 0, 1) := by decide +kernel
theorem dX13_die_27 : decode cX13_die 27 = .ok (.istore_n 2, 1) := by decide +kernel
theorem dX13_die_28 : decode cX13_die 28 = .ok (.iconst 0, 1) := by decide +kernel
theorem dX13_die_29 : decode cX13_die 29 = .ok (.istore_n 3, 1) := by decide +kernel
theorem dX13_die_30 : decode cX13_die 30 = .ok (.iload_n 3, 1) := by decide +kernel
theorem dX13_die_31 : decode cX13_die 31 = .ok (.aload_n 0, 1) := by decide +kernel
theorem dX13_die_32 : decode cX13_die 32 = .ok (.getfield 418, 3) := by decide +kernel
theorem dX13_die_35 : decode cX13_die 35 = .ok (.if_icmp .ge 35, 3) := by decide +kernel
theorem dX13_die_38 : decode cX13_die 38 = .ok (.iload_n 2, 1) := by decide +kernel
theorem dX13_die_39 : decode cX13_die 39 = .ok (.aload_n 0, 1) := by decide +kernel
theorem dX13_die_40 : decode cX13_die 40 = .ok (.iload_n 3, 1) := by decide +kernel
theorem dX13_die_41 : decode cX13_die 41 = .ok (.invokevirtual 485, 3) := by decide +kernel
theorem dX13_die_44 : decode cX13_die 44 = .ok (.ifCond .eq 17, 3) := by decide +kernel
theorem dX13_die_47 : decode cX13_die 47 = .ok (.aload_n 0, 1) := by decide +kernel
theorem dX13_die_48 : decode cX13_die 48 = .ok (.getfield 105, 3) := by decide +kernel
theorem dX13_die_51 : decode cX13_die 51 = .ok (.iload_n 3, 1) := by decide +kernel
theorem dX13_die_52 : decode cX13_die 52 = .ok (.iaload, 1) := by decide +kernel
theorem dX13_die_53 : decode cX13_die 53 = .ok (.iload_n 1, 1) := by decide +kernel
theorem dX13_die_54 : decode cX13_die 54 = .ok (.if_icmp .ne 7, 3) := by decide +kernel
theorem dX13_die_57 : decode cX13_die 57 = .ok (.iconst 1, 1) := by decide +kernel
theorem dX13_die_58 : decode cX13_die 58 = .ok (.goto 4, 3) := by decide +kernel
theorem dX13_die_61 : decode cX13_die 61 = .ok (.iconst 0, 1) := by decide +kernel
theorem dX13_die_62 : decode cX13_die 62 = .ok (.iadd, 1) := by decide +kernel
theorem dX13_die_63 : decode cX13_die 63 = .ok (.istore_n 2, 1) := by decide +kernel
theorem dX13_die_64 : decode cX13_die 64 = .ok (.iinc 3 1, 3) := by decide +kernel
theorem dX13_die_67 : decode cX13_die 67 = .ok (.goto (-37), 3) := by decide +kernel
theorem dX13_die_70 : decode cX13_die 70 = .ok (.iload_n 2, 1) := by decide +kernel
theorem dX13_die_71 : decode cX13_die 71 = .ok (.ireturn, 1) := by decide +kernel
theorem dX13_takers_0 : decode cX13_takers 0 = .ok (.aload_n 0, 1) := by decide +kernel
theorem dX13_takers_1 : decode cX13_takers 1 = .ok (.iload_n 1, 1) := by decide +kernel
theorem dX13_takers_2 : decode cX13_takers 2 = .ok (.invokevirtual 421, 3) := by decide +kernel
theorem dX13_takers_5 : decode cX13_takers 5 = .ok (.ifCond .eq 11, 3) := by decide +kernel
theorem dX13_takers_8 : decode cX13_takers 8 = .ok (.aload_n 0, 1) := by decide +kernel
theorem dX13_takers_9 : decode cX13_takers 9 = .ok (.iload_n 1, 1) := by decide +kernel
theorem dX13_takers_10 : decode cX13_takers 10 = .ok (.invokevirtual 485, 3) := by decide +kernel
theorem dX13_takers_13 : decode cX13_takers 13 = .ok (.ifCond .ne 5, 3) := by decide +kernel
theorem dX13_takers_16 : decode cX13_takers 16 = .ok (.iconst (-1), 1) := by decide +kernel
theorem dX13_takers_17 : decode cX13_takers 17 = .ok (.ireturn, 1) := by decide +kernel
theorem dX13_takers_18 : decode cX13_takers 18 = .ok (.iconst 0, 1) := by decide +kernel
theorem dX13_takers_19 : decode cX13_takers 19 = .ok (.istore_n 2, 1) := by decide +kernel
theorem dX13_takers_20 : decode cX13_takers 20 = .ok (.iconst 0, 1) := by decide +kernel
theorem dX13_takers_21 : decode cX13_takers 21 = .ok (.istore_n 3, 1) := by decide +kernel
theorem dX13_takers_22 : decode cX13_takers 22 = .ok (.iload_n 3, 1) := by decide +kernel
theorem dX13_takers_23 : decode cX13_takers 23 = .ok (.aload_n 0, 1) := by decide +kernel
theorem dX13_takers_24 : decode cX13_takers 24 = .ok (.getfield 445, 3) := by decide +kernel
theorem dX13_takers_27 : decode cX13_takers 27 = .ok (.if_icmp .ge 28, 3) := by decide +kernel
theorem dX13_takers_30 : decode cX13_takers 30 = .ok (.iload_n 2, 1) := by decide +kernel
theorem dX13_takers_31 : decode cX13_takers 31 = .ok (.aload_n 0, 1) := by decide +kernel
theorem dX13_takers_32 : decode cX13_takers 32 = .ok (.iload_n 1, 1) := by decide +kernel
theorem dX13_takers_33 : decode cX13_takers 33 = .ok (.iload_n 3, 1) := by decide +kernel
theorem dX13_takers_34 : decode cX13_takers 34 = .ok (.invokevirtual 473, 3) := by decide +kernel
theorem dX13_takers_37 : decode cX13_takers 37 = .ok (.ifCond .eq 9, 3) := by decide +kernel
theorem dX13_takers_40 : decode cX13_takers 40 = .ok (.iconst 1, 1) := by decide +kernel
theorem dX13_takers_41 : decode cX13_takers 41 = .ok (.iload_n 3, 1) := by decide +kernel
theorem dX13_takers_42 : decode cX13_takers 42 = .ok (.ishl, 1) := by decide +kernel
theorem dX13_takers_43 : decode cX13_takers 43 = .ok (.goto 4, 3) := by decide +kernel
theorem dX13_takers_46 : decode cX13_takers 46 = .ok (.iconst 0, 1) := by decide +kernel
theorem dX13_takers_47 : decode cX13_takers 47 = .ok (.ior, 1) := by decide +kernel
theorem dX13_takers_48 : decode cX13_takers 48 = .ok (.istore_n 2, 1) := by decide +kernel
theorem dX13_takers_49 : decode cX13_takers 49 = .ok (.iinc 3 1, 3) := by decide +kernel
theorem dX13_takers_52 : decode cX13_takers 52 = .ok (.goto (-30), 3) := by decide +kernel
theorem dX13_takers_55 : decode cX13_takers 55 = .ok (.iload_n 2, 1) := by decide +kernel
theorem dX13_takers_56 : decode cX13_takers 56 = .ok (.ireturn, 1) := by decide +kernel
theorem dX13_tell_0 : decode cX13_tell 0 = .ok (.iload_n 1, 1) := by decide +kernel
theorem dX13_tell_1 : decode cX13_tell 1 = .ok (.iconst 0, 1) := by decide +kernel
theorem dX13_tell_2 : decode cX13_tell 2 = .ok (.bipush 39, 2) := by decide +kernel
theorem dX13_tell_4 : decode cX13_tell 4 = .ok (.invokestatic 256, 3) := by decide +kernel
theorem dX13_tell_7 : decode cX13_tell 7 = .ok (.ifCond .eq 28, 3) := by decide +kernel
theorem dX13_tell_10 : decode cX13_tell 10 = .ok (.iload_n 2, 1) := by decide +kernel
theorem dX13_tell_11 : decode cX13_tell 11 = .ok (.iconst 0, 1) := by decide +kernel
theorem dX13_tell_12 : decode cX13_tell 12 = .ok (.sipush 999, 3) := by decide +kernel
theorem dX13_tell_15 : decode cX13_tell 15 = .ok (.invokestatic 256, 3) := by decide +kernel
theorem dX13_tell_18 : decode cX13_tell 18 = .ok (.ifCond .eq 17, 3) := by decide +kernel
theorem dX13_tell_21 : decode cX13_tell 21 = .ok (.iload_n 3, 1) := by decide +kernel
theorem dX13_tell_22 : decode cX13_tell 22 = .ok (.ifCond .lt 13, 3) := by decide +kernel
theorem dX13_tell_25 : decode cX13_tell 25 = .ok (.aload_n 0, 1) := by decide +kernel
theorem dX13_tell_26 : decode cX13_tell 26 = .ok (.getfield 476, 3) := by decide +kernel
theorem dX13_tell_29 : decode cX13_tell 29 = .ok (.sipush 600, 3) := by decide +kernel
theorem dX13_tell_32 : decode cX13_tell 32 = .ok (.if_icmp .ne 5, 3) := by decide +kernel
theorem dX13_tell_35 : decode cX13_tell 35 = .ok (.iconst 0, 1) := by decide +kernel
theorem dX13_tell_36 : decode cX13_tell 36 = .ok (.ireturn, 1) := by decide +kernel
theorem dX13_tell_37 : decode cX13_tell 37 = .ok (.aload_n 0, 1) := by decide +kernel
theorem dX13_tell_38 : decode cX13_tell 38 = .ok (.getfield 162, 3) := by decide +kernel
theorem dX13_tell_41 : decode cX13_tell 41 = .ok (.aload_n 0, 1) := by decide +kernel
theorem dX13_tell_42 : decode cX13_tell 42 = .ok (.getfield 476, 3) := by decide +kernel
theorem dX13_tell_45 : decode cX13_tell 45 = .ok (.iload_n 1, 1) := by decide +kernel
theorem dX13_tell_46 : decode cX13_tell 46 = .ok (.iastore, 1) := by decide +kernel
theorem dX13_tell_47 : decode cX13_tell 47 = .ok (.aload_n 0, 1) := by decide +kernel
theorem dX13_tell_48 : decode cX13_tell 48 = .ok (.getfield 165, 3) := by decide +kernel
theorem dX13_tell_51 : decode cX13_tell 51 = .ok (.aload_n 0, 1) := by decide +kernel
theorem dX13_tell_52 : decode cX13_tell 52 = .ok (.getfield 476, 3) := by decide +kernel
theorem dX13_tell_55 : decode cX13_tell 55 = .ok (.iload_n 2, 1) := by decide +kernel
theorem dX13_tell_56 : decode cX13_tell 56 = .ok (.iastore, 1) := by decide +kernel
theorem dX13_tell_57 : decode cX13_tell 57 = .ok (.aload_n 0, 1) := by decide +kernel
theorem dX13_tell_58 : decode cX13_tell 58 = .ok (.getfield 168, 3) := by decide +kernel
theorem dX13_tell_61 : decode cX13_tell 61 = .ok (.aload_n 0, 1) := by decide +kernel
theorem dX13_tell_62 : decode cX13_tell 62 = .ok (.getfield 476, 3) := by decide +kernel
theorem dX13_tell_65 : decode cX13_tell 65 = .ok (.iload_n 3, 1) := by decide +kernel
theorem dX13_tell_66 : decode cX13_tell 66 = .ok (.iastore, 1) := by decide +kernel
theorem dX13_tell_67 : decode cX13_tell 67 = .ok (.aload_n 0, 1) := by decide +kernel
theorem dX13_tell_68 : decode cX13_tell 68 = .ok (.getfield 171, 3) := by decide +kernel
theorem dX13_tell_71 : decode cX13_tell 71 = .ok (.aload_n 0, 1) := by decide +kernel
theorem dX13_tell_72 : decode cX13_tell 72 = .ok (.getfield 476, 3) := by decide +kernel
theorem dX13_tell_75 : decode cX13_tell 75 = .ok (.aload_n 0, 1) := by decide +kernel
theorem dX13_tell_76 : decode cX13_tell 76 = .ok (.getfield 383, 3) := by decide +kernel
theorem dX13_tell_79 : decode cX13_tell 79 = .ok (.iastore, 1) := by decide +kernel
theorem dX13_tell_80 : decode cX13_tell 80 = .ok (.aload_n 0, 1) := by decide +kernel
theorem dX13_tell_81 : decode cX13_tell 81 = .ok (.dup, 1) := by decide +kernel
theorem dX13_tell_82 : decode cX13_tell 82 = .ok (.getfield 476, 3) := by decide +kernel
theorem dX13_tell_85 : decode cX13_tell 85 = .ok (.iconst 1, 1) := by decide +kernel
theorem dX13_tell_86 : decode cX13_tell 86 = .ok (.iadd, 1) := by decide +kernel
theorem dX13_tell_87 : decode cX13_tell 87 = .ok (.putfield 476, 3) := by decide +kernel
theorem dX13_tell_90 : decode cX13_tell 90 = .ok (.iconst 1, 1) := by decide +kernel
theorem dX13_tell_91 : decode cX13_tell 91 = .ok (.ireturn, 1) := by decide +kernel
theorem dX13_known_0 : decode cX13_known 0 = .ok (.iload_n 1, 1) := by decide +kernel
theorem dX13_known_1 : decode cX13_known 1 = .ok (.iconst 0, 1) := by decide +kernel
theorem dX13_known_2 : decode cX13_known 2 = .ok (.bipush 39, 2) := by decide +kernel
theorem dX13_known_4 : decode cX13_known 4 = .ok (.invokestatic 256, 3) := by decide +kernel
theorem dX13_known_7 : decode cX13_known 7 = .ok (.ifCond .eq 23, 3) := by decide +kernel
theorem dX13_known_10 : decode cX13_known 10 = .ok (.iload_n 2, 1) := by decide +kernel
theorem dX13_known_11 : decode cX13_known 11 = .ok (.iconst 0, 1) := by decide +kernel
theorem dX13_known_12 : decode cX13_known 12 = .ok (.sipush 2000, 3) := by decide +kernel
theorem dX13_known_15 : decode cX13_known 15 = .ok (.invokestatic 256, 3) := by decide +kernel
theorem dX13_known_18 : decode cX13_known 18 = .ok (.ifCond .eq 12, 3) := by decide +kernel
theorem dX13_known_21 : decode cX13_known 21 = .ok (.iload_n 3, 1) := by decide +kernel
theorem dX13_known_22 : decode cX13_known 22 = .ok (.iconst 0, 1) := by decide +kernel
theorem dX13_known_23 : decode cX13_known 23 = .ok (.iconst 1, 1) := by decide +kernel
theorem dX13_known_24 : decode cX13_known 24 = .ok (.invokestatic 256, 3) := by decide +kernel
theorem dX13_known_27 : decode cX13_known 27 = .ok (.ifCond .ne 5, 3) := by decide +kernel
theorem dX13_known_30 : decode cX13_known 30 = .ok (.iconst (-1), 1) := by decide +kernel
theorem dX13_known_31 : decode cX13_known 31 = .ok (.ireturn, 1) := by decide +kernel
theorem dX13_known_32 : decode cX13_known 32 = .ok (.aload_n 0, 1) := by decide +kernel
theorem dX13_known_33 : decode cX13_known 33 = .ok (.iload_n 1, 1) := by decide +kernel
theorem dX13_known_34 : decode cX13_known 34 = .ok (.iload_n 2, 1) := by decide +kernel
theorem dX13_known_35 : decode cX13_known 35 = .ok (.invokevirtual 479, 3) := by decide +kernel
theorem dX13_known_38 : decode cX13_known 38 = .ok (.istore 4, 2) := by decide +kernel
theorem dX13_known_40 : decode cX13_known 40 = .ok (.iload 4, 2) := by decide +kernel
theorem dX13_known_42 : decode cX13_known 42 = .ok (.iconst (-1), 1) := by decide +kernel
theorem dX13_known_43 : decode cX13_known 43 = .ok (.if_icmp .ne 7, 3) := by decide +kernel
theorem dX13_known_46 : decode cX13_known 46 = .ok (.iconst (-1), 1) := by decide +kernel
theorem dX13_known_47 : decode cX13_known 47 = .ok (.goto 24, 3) := by decide +kernel
theorem dX13_known_50 : decode cX13_known 50 = .ok (.iload_n 3, 1) := by decide +kernel
theorem dX13_known_51 : decode cX13_known 51 = .ok (.ifCond .ne 13, 3) := by decide +kernel
theorem dX13_known_54 : decode cX13_known 54 = .ok (.aload_n 0, 1) := by decide +kernel
theorem dX13_known_55 : decode cX13_known 55 = .ok (.getfield 165, 3) := by decide +kernel
theorem dX13_known_58 : decode cX13_known 58 = .ok (.iload 4, 2) := by decide +kernel
theorem dX13_known_60 : decode cX13_known 60 = .ok (.iaload, 1) := by decide +kernel
theorem dX13_known_61 : decode cX13_known 61 = .ok (.goto 10, 3) := by decide +kernel
theorem dX13_known_64 : decode cX13_known 64 = .ok (.aload_n 0, 1) := by decide +kernel
theorem dX13_known_65 : decode cX13_known 65 = .ok (.getfield 168, 3) := by decide +kernel
theorem dX13_known_68 : decode cX13_known 68 = .ok (.iload 4, 2) := by decide +kernel
theorem dX13_known_70 : decode cX13_known 70 = .ok (.iaload, 1) := by decide +kernel
theorem dX13_known_71 : decode cX13_known 71 = .ok (.ireturn, 1) := by decide +kernel
theorem dX13_isLine_0 : decode cX13_isLine 0 = .ok (.iload_n 1, 1) := by decide +kernel
theorem dX13_isLine_1 : decode cX13_isLine 1 = .ok (.iconst 0, 1) := by decide +kernel
theorem dX13_isLine_2 : decode cX13_isLine 2 = .ok (.aload_n 0, 1) := by decide +kernel
theorem dX13_isLine_3 : decode cX13_isLine 3 = .ok (.getfield 452, 3) := by decide +kernel
theorem dX13_isLine_6 : decode cX13_isLine 6 = .ok (.iconst 1, 1) := by decide +kernel
theorem dX13_isLine_7 : decode cX13_isLine 7 = .ok (.isub, 1) := by decide +kernel
theorem dX13_isLine_8 : decode cX13_isLine 8 = .ok (.invokestatic 256, 3) := by decide +kernel
theorem dX13_isLine_11 : decode cX13_isLine 11 = .ok (.ireturn, 1) := by decide +kernel
theorem dX13_isSetLine_0 : decode cX13_isSetLine 0 = .ok (.aload_n 0, 1) := by decide +kernel
theorem dX13_isSetLine_1 : decode cX13_isSetLine 1 = .ok (.getfield 114, 3) := by decide +kernel
theorem dX13_isSetLine_4 : decode cX13_isSetLine 4 = .ok (.aload_n 0, 1) := by decide +kernel
theorem dX13_isSetLine_5 : decode cX13_isSetLine 5 = .ok (.getfield 135, 3) := by decide +kernel
theorem dX13_isSetLine_8 : decode cX13_isSetLine 8 = .ok (.iload_n 1, 1) := by decide +kernel
theorem dX13_isSetLine_9 : decode cX13_isSetLine 9 = .ok (.iaload, 1) := by decide +kernel
theorem dX13_isSetLine_10 : decode cX13_isSetLine 10 = .ok (.iaload, 1) := by decide +kernel
theorem dX13_isSetLine_11 : decode cX13_isSetLine 11 = .ok (.iconst (-1), 1) := by decide +kernel
theorem dX13_isSetLine_12 : decode cX13_isSetLine 12 = .ok (.if_icmp .eq 7, 3) := by decide +kernel
theorem dX13_isSetLine_15 : decode cX13_isSetLine 15 = .ok (.iconst 1, 1) := by decide +kernel
theorem dX13_isSetLine_16 : decode cX13_isSetLine 16 = .ok (.goto 4, 3) := by decide +kernel
theorem dX13_isSetLine_19 : decode cX13_isSetLine 19 = .ok (.iconst 0, 1) := by decide +kernel
theorem dX13_isSetLine_20 : decode cX13_isSetLine 20 = .ok (.ireturn, 1) := by decide +kernel
theorem dX13_keeps_0 : decode cX13_keeps 0 = .ok (.aload_n 0, 1) := by decide +kernel
theorem dX13_keeps_1 : decode cX13_keeps 1 = .ok (.getfield 147, 3) := by decide +kernel
theorem dX13_keeps_4 : decode cX13_keeps 4 = .ok (.iload_n 1, 1) := by decide +kernel
theorem dX13_keeps_5 : decode cX13_keeps 5 = .ok (.iaload, 1) := by decide +kernel
theorem dX13_keeps_6 : decode cX13_keeps 6 = .ok (.istore 4, 2) := by decide +kernel
theorem dX13_keeps_8 : decode cX13_keeps 8 = .ok (.iconst 0, 1) := by decide +kernel
theorem dX13_keeps_9 : decode cX13_keeps 9 = .ok (.istore 5, 2) := by decide +kernel
theorem dX13_keeps_11 : decode cX13_keeps 11 = .ok (.iload 5, 2) := by decide +kernel
theorem dX13_keeps_13 : decode cX13_keeps 13 = .ok (.aload_n 0, 1) := by decide +kernel
theorem dX13_keeps_14 : decode cX13_keeps 14 = .ok (.getfield 488, 3) := by decide +kernel
theorem dX13_keeps_17 : decode cX13_keeps 17 = .ok (.if_icmp .ge 82, 3) := by decide +kernel
theorem dX13_keeps_20 : decode cX13_keeps 20 = .ok (.aload_n 0, 1) := by decide +kernel
theorem dX13_keeps_21 : decode cX13_keeps 21 = .ok (.getfield 174, 3) := by decide +kernel
theorem dX13_keeps_24 : decode cX13_keeps 24 = .ok (.iload 5, 2) := by decide +kernel
theorem dX13_keeps_26 : decode cX13_keeps 26 = .ok (.iaload, 1) := by decide +kernel
theorem dX13_keeps_27 : decode cX13_keeps 27 = .ok (.iload_n 1, 1) := by decide +kernel
theorem dX13_keeps_28 : decode cX13_keeps 28 = .ok (.if_icmp .ne 65, 3) := by decide +kernel
theorem dX13_keeps_31 : decode cX13_keeps 31 = .ok (.aload_n 0, 1) := by decide +kernel
theorem dX13_keeps_32 : decode cX13_keeps 32 = .ok (.getfield 183, 3) := by decide +kernel
theorem dX13_keeps_35 : decode cX13_keeps 35 = .ok (.iload 5, 2) := by decide +kernel
theorem dX13_keeps_37 : decode cX13_keeps 37 = .ok (.iaload, 1) := by decide +kernel
theorem dX13_keeps_38 : decode cX13_keeps 38 = .ok (.iload_n 2, 1) := by decide +kernel
theorem dX13_keeps_39 : decode cX13_keeps 39 = .ok (.if_icmp .le 6, 3) := by decide +kernel
theorem dX13_keeps_42 : decode cX13_keeps 42 = .ok (.goto 51, 3) := by decide +kernel
theorem dX13_keeps_45 : decode cX13_keeps 45 = .ok (.iload 5, 2) := by decide +kernel
theorem dX13_keeps_47 : decode cX13_keeps 47 = .ok (.iload_n 3, 1) := by decide +kernel
theorem dX13_keeps_48 : decode cX13_keeps 48 = .ok (.if_icmp .ne 24, 3) := by decide +kernel
theorem dX13_keeps_51 : decode cX13_keeps 51 = .ok (.aload_n 0, 1) := by decide +kernel
theorem dX13_keeps_52 : decode cX13_keeps 52 = .ok (.aload_n 0, 1) := by decide +kernel
theorem dX13_keeps_53 : decode cX13_keeps 53 = .ok (.getfield 177, 3) := by decide +kernel
theorem dX13_keeps_56 : decode cX13_keeps 56 = .ok (.iload 5, 2) := by decide +kernel
theorem dX13_keeps_58 : decode cX13_keeps 58 = .ok (.iaload, 1) := by decide +kernel
theorem dX13_keeps_59 : decode cX13_keeps 59 = .ok (.iload 4, 2) := by decide +kernel
theorem dX13_keeps_61 : decode cX13_keeps 61 = .ok (.if_icmp .ne 7, 3) := by decide +kernel
theorem dX13_keeps_64 : decode cX13_keeps 64 = .ok (.iconst 0, 1) := by decide +kernel
theorem dX13_keeps_65 : decode cX13_keeps 65 = .ok (.goto 4, 3) := by decide +kernel
theorem dX13_keeps_68 : decode cX13_keeps 68 = .ok (.iconst 1, 1) := by decide +kernel
theorem dX13_keeps_69 : decode cX13_keeps 69 = .ok (.putfield 491, 3) := by decide +kernel
theorem dX13_keeps_72 : decode cX13_keeps 72 = .ok (.aload_n 0, 1) := by decide +kernel
theorem dX13_keeps_73 : decode cX13_keeps 73 = .ok (.getfield 177, 3) := by decide +kernel
theorem dX13_keeps_76 : decode cX13_keeps 76 = .ok (.iload 5, 2) := by decide +kernel
theorem dX13_keeps_78 : decode cX13_keeps 78 = .ok (.iaload, 1) := by decide +kernel
theorem dX13_keeps_79 : decode cX13_keeps 79 = .ok (.iload 4, 2) := by decide +kernel
theorem dX13_keeps_81 : decode cX13_keeps 81 = .ok (.if_icmp .ne 12, 3) := by decide +kernel
theorem dX13_keeps_84 : decode cX13_keeps 84 = .ok (.aload_n 0, 1) := by decide +kernel
theorem dX13_keeps_85 : decode cX13_keeps 85 = .ok (.getfield 180, 3) := by decide +kernel
theorem dX13_keeps_88 : decode cX13_keeps 88 = .ok (.iload 5, 2) := by decide +kernel
theorem dX13_keeps_90 : decode cX13_keeps 90 = .ok (.iaload, 1) := by decide +kernel
theorem dX13_keeps_91 : decode cX13_keeps 91 = .ok (.istore 4, 2) := by decide +kernel
theorem dX13_keeps_93 : decode cX13_keeps 93 = .ok (.iinc 5 1, 3) := by decide +kernel
theorem dX13_keeps_96 : decode cX13_keeps 96 = .ok (.goto (-85), 3) := by decide +kernel
theorem dX13_keeps_99 : decode cX13_keeps 99 = .ok (.iload 4, 2) := by decide +kernel
theorem dX13_keeps_101 : decode cX13_keeps 101 = .ok (.ireturn, 1) := by decide +kernel
theorem dX13_isStale_0 : decode cX13_isStale 0 = .ok (.iload_n 1, 1) := by decide +kernel
theorem dX13_isStale_1 : decode cX13_isStale 1 = .ok (.istore_n 3, 1) := by decide +kernel
theorem dX13_isStale_2 : decode cX13_isStale 2 = .ok (.iload_n 3, 1) := by decide +kernel
theorem dX13_isStale_3 : decode cX13_isStale 3 = .ok (.iconst (-1), 1) := by decide +kernel
theorem dX13_isStale_4 : decode cX13_isStale 4 = .ok (.if_icmp .eq 46, 3) := by decide +kernel
theorem dX13_isStale_7 : decode cX13_isStale 7 = .ok (.aload_n 0, 1) := by decide +kernel
theorem dX13_isStale_8 : decode cX13_isStale 8 = .ok (.getfield 141, 3) := by decide +kernel
theorem dX13_isStale_11 : decode cX13_isStale 11 = .ok (.iload_n 3, 1) := by decide +kernel
theorem dX13_isStale_12 : decode cX13_isStale 12 = .ok (.iaload, 1) := by decide +kernel
theorem dX13_isStale_13 : decode cX13_isStale 13 = .ok (.iconst (-1), 1) := by decide +kernel
theorem dX13_isStale_14 : decode cX13_isStale 14 = .ok (.if_icmp .eq 26, 3) := by decide +kernel
theorem dX13_isStale_17 : decode cX13_isStale 17 = .ok (.aload_n 0, 1) := by decide +kernel
theorem dX13_isStale_18 : decode cX13_isStale 18 = .ok (.iload_n 3, 1) := by decide +kernel
theorem dX13_isStale_19 : decode cX13_isStale 19 = .ok (.iload_n 2, 1) := by decide +kernel
theorem dX13_isStale_20 : decode cX13_isStale 20 = .ok (.iconst (-1), 1) := by decide +kernel
theorem dX13_isStale_21 : decode cX13_isStale 21 = .ok (.invokevirtual 494, 3) := by decide +kernel
theorem dX13_isStale_24 : decode cX13_isStale 24 = .ok (.aload_n 0, 1) := by decide +kernel
theorem dX13_isStale_25 : decode cX13_isStale 25 = .ok (.aload_n 0, 1) := by decide +kernel
theorem dX13_isStale_26 : decode cX13_isStale 26 = .ok (.getfield 141, 3) := by decide +kernel
theorem dX13_isStale_29 : decode cX13_isStale 29 = .ok (.iload_n 3, 1) := by decide +kernel
theorem dX13_isStale_30 : decode cX13_isStale 30 = .ok (.iaload, 1) := by decide +kernel
theorem dX13_isStale_31 : decode cX13_isStale 31 = .ok (.iload_n 2, 1) := by decide +kernel
theorem dX13_isStale_32 : decode cX13_isStale 32 = .ok (.invokevirtual 482, 3) := by decide +kernel
theorem dX13_isStale_35 : decode cX13_isStale 35 = .ok (.if_icmp .eq 5, 3) := by decide +kernel
theorem dX13_isStale_38 : decode cX13_isStale 38 = .ok (.iconst 1, 1) := by decide +kernel
theorem dX13_isStale_39 : decode cX13_isStale 39 = .ok (.ireturn, 1) := by decide +kernel
theorem dX13_isStale_40 : decode cX13_isStale 40 = .ok (.aload_n 0, 1) := by decide +kernel
theorem dX13_isStale_41 : decode cX13_isStale 41 = .ok (.getfield 144, 3) := by decide +kernel
theorem dX13_isStale_44 : decode cX13_isStale 44 = .ok (.iload_n 3, 1) := by decide +kernel
theorem dX13_isStale_45 : decode cX13_isStale 45 = .ok (.iaload, 1) := by decide +kernel
theorem dX13_isStale_46 : decode cX13_isStale 46 = .ok (.istore_n 3, 1) := by decide +kernel
theorem dX13_isStale_47 : decode cX13_isStale 47 = .ok (.goto (-45), 3) := by decide +kernel
theorem dX13_isStale_50 : decode cX13_isStale 50 = .ok (.iconst 0, 1) := by decide +kernel
theorem dX13_isStale_51 : decode cX13_isStale 51 = .ok (.ireturn, 1) := by decide +kernel
theorem dX13_stale_0 : decode cX13_stale 0 = .ok (.aload_n 0, 1) := by decide +kernel
theorem dX13_stale_1 : decode cX13_stale 1 = .ok (.iload_n 1, 1) := by decide +kernel
theorem dX13_stale_2 : decode cX13_stale 2 = .ok (.invokevirtual 497, 3) := by decide +kernel
theorem dX13_stale_5 : decode cX13_stale 5 = .ok (.ifCond .eq 27, 3) := by decide +kernel
theorem dX13_stale_8 : decode cX13_stale 8 = .ok (.iload_n 2, 1) := by decide +kernel
theorem dX13_stale_9 : decode cX13_stale 9 = .ok (.iconst 0, 1) := by decide +kernel
theorem dX13_stale_10 : decode cX13_stale 10 = .ok (.sipush 2000, 3) := by decide +kernel
theorem dX13_stale_13 : decode cX13_stale 13 = .ok (.invokestatic 256, 3) := by decide +kernel
theorem dX13_stale_16 : decode cX13_stale 16 = .ok (.ifCond .eq 16, 3) := by decide +kernel
theorem dX13_stale_19 : decode cX13_stale 19 = .ok (.aload_n 0, 1) := by decide +kernel
theorem dX13_stale_20 : decode cX13_stale 20 = .ok (.iload_n 1, 1) := by decide +kernel
theorem dX13_stale_21 : decode cX13_stale 21 = .ok (.iload_n 2, 1) := by decide +kernel
theorem dX13_stale_22 : decode cX13_stale 22 = .ok (.invokevirtual 500, 3) := by decide +kernel
theorem dX13_stale_25 : decode cX13_stale 25 = .ok (.ifCond .eq 7, 3) := by decide +kernel
theorem dX13_stale_28 : decode cX13_stale 28 = .ok (.iconst 1, 1) := by decide +kernel
theorem dX13_stale_29 : decode cX13_stale 29 = .ok (.goto 4, 3) := by decide +kernel
theorem dX13_stale_32 : decode cX13_stale 32 = .ok (.iconst 0, 1) := by decide +kernel
theorem dX13_stale_33 : decode cX13_stale 33 = .ok (.ireturn, 1) := by decide +kernel
theorem dX13_stales_0 : decode cX13_stales 0 = .ok (.aload_n 0, 1) := by decide +kernel
theorem dX13_stales_1 : decode cX13_stales 1 = .ok (.iload_n 1, 1) := by decide +kernel
theorem dX13_stales_2 : decode cX13_stales 2 = .ok (.invokevirtual 421, 3) := by decide +kernel
theorem dX13_stales_5 : decode cX13_stales 5 = .ok (.ifCond .ne 5, 3) := by decide +kernel
theorem dX13_stales_8 : decode cX13_stales 8 = .ok (.iconst (-1), 1) := by decide +kernel
theorem dX13_stales_9 : decode cX13_stales 9 = .ok (.ireturn, 1) := by decide +kernel
theorem dX13_stales_10 : decode cX13_stales 10 = .ok (.iconst 0, 1) := by decide +kernel
theorem dX13_stales_11 : decode cX13_stales 11 = .ok (.istore_n 2, 1) := by decide +kernel
theorem dX13_stales_12 : decode cX13_stales 12 = .ok (.iconst 0, 1) := by decide +kernel
theorem dX13_stales_13 : decode cX13_stales 13 = .ok (.istore_n 3, 1) := by decide +kernel
theorem dX13_stales_14 : decode cX13_stales 14 = .ok (.iload_n 3, 1) := by decide +kernel
theorem dX13_stales_15 : decode cX13_stales 15 = .ok (.aload_n 0, 1) := by decide +kernel
theorem dX13_stales_16 : decode cX13_stales 16 = .ok (.getfield 452, 3) := by decide +kernel
theorem dX13_stales_19 : decode cX13_stales 19 = .ok (.if_icmp .ge 39, 3) := by decide +kernel
theorem dX13_stales_22 : decode cX13_stales 22 = .ok (.iload_n 2, 1) := by decide +kernel
theorem dX13_stales_23 : decode cX13_stales 23 = .ok (.aload_n 0, 1) := by decide +kernel
theorem dX13_stales_24 : decode cX13_stales 24 = .ok (.getfield 135, 3) := by decide +kernel
theorem dX13_stales_27 : decode cX13_stales 27 = .ok (.iload_n 3, 1) := by decide +kernel
theorem dX13_stales_28 : decode cX13_stales 28 = .ok (.iaload, 1) := by decide +kernel
theorem dX13_stales_29 : decode cX13_stales 29 = .ok (.iload_n 1, 1) := by decide +kernel
theorem dX13_stales_30 : decode cX13_stales 30 = .ok (.if_icmp .ne 19, 3) := by decide +kernel
theorem dX13_stales_33 : decode cX13_stales 33 = .ok (.aload_n 0, 1) := by decide +kernel
theorem dX13_stales_34 : decode cX13_stales 34 = .ok (.iload_n 3, 1) := by decide +kernel
theorem dX13_stales_35 : decode cX13_stales 35 = .ok (.aload_n 0, 1) := by decide +kernel
theorem dX13_stales_36 : decode cX13_stales 36 = .ok (.getfield 383, 3) := by decide +kernel
theorem dX13_stales_39 : decode cX13_stales 39 = .ok (.invokevirtual 500, 3) := by decide +kernel
theorem dX13_stales_42 : decode cX13_stales 42 = .ok (.ifCond .eq 7, 3) := by decide +kernel
theorem dX13_stales_45 : decode cX13_stales 45 = .ok (.iconst 1, 1) := by decide +kernel
theorem dX13_stales_46 : decode cX13_stales 46 = .ok (.goto 4, 3) := by decide +kernel
theorem dX13_stales_49 : decode cX13_stales 49 = .ok (.iconst 0, 1) := by decide +kernel
theorem dX13_stales_50 : decode cX13_stales 50 = .ok (.iadd, 1) := by decide +kernel
theorem dX13_stales_51 : decode cX13_stales 51 = .ok (.istore_n 2, 1) := by decide +kernel
theorem dX13_stales_52 : decode cX13_stales 52 = .ok (.iinc 3 1, 3) := by decide +kernel
theorem dX13_stales_55 : decode cX13_stales 55 = .ok (.goto (-41), 3) := by decide +kernel
theorem dX13_stales_58 : decode cX13_stales 58 = .ok (.iload_n 2, 1) := by decide +kernel
theorem dX13_stales_59 : decode cX13_stales 59 = .ok (.ireturn, 1) := by decide +kernel
theorem dX13_mend_0 : decode cX13_mend 0 = .ok (.aload_n 0, 1) := by decide +kernel
theorem dX13_mend_1 : decode cX13_mend 1 = .ok (.iload_n 1, 1) := by decide +kernel
theorem dX13_mend_2 : decode cX13_mend 2 = .ok (.invokevirtual 497, 3) := by decide +kernel
theorem dX13_mend_5 : decode cX13_mend 5 = .ok (.ifCond .eq 21, 3) := by decide +kernel
theorem dX13_mend_8 : decode cX13_mend 8 = .ok (.aload_n 0, 1) := by decide +kernel
theorem dX13_mend_9 : decode cX13_mend 9 = .ok (.iload_n 1, 1) := by decide +kernel
theorem dX13_mend_10 : decode cX13_mend 10 = .ok (.invokevirtual 503, 3) := by decide +kernel
theorem dX13_mend_13 : decode cX13_mend 13 = .ok (.ifCond .ne 13, 3) := by decide +kernel
theorem dX13_mend_16 : decode cX13_mend 16 = .ok (.aload_n 0, 1) := by decide +kernel
theorem dX13_mend_17 : decode cX13_mend 17 = .ok (.getfield 141, 3) := by decide +kernel
theorem dX13_mend_20 : decode cX13_mend 20 = .ok (.iload_n 1, 1) := by decide +kernel
theorem dX13_mend_21 : decode cX13_mend 21 = .ok (.iaload, 1) := by decide +kernel
theorem dX13_mend_22 : decode cX13_mend 22 = .ok (.iconst (-1), 1) := by decide +kernel
theorem dX13_mend_23 : decode cX13_mend 23 = .ok (.if_icmp .ne 5, 3) := by decide +kernel
theorem dX13_mend_26 : decode cX13_mend 26 = .ok (.iconst (-1), 1) := by decide +kernel
theorem dX13_mend_27 : decode cX13_mend 27 = .ok (.ireturn, 1) := by decide +kernel
theorem dX13_mend_28 : decode cX13_mend 28 = .ok (.aload_n 0, 1) := by decide +kernel
theorem dX13_mend_29 : decode cX13_mend 29 = .ok (.getfield 147, 3) := by decide +kernel
theorem dX13_mend_32 : decode cX13_mend 32 = .ok (.iload_n 1, 1) := by decide +kernel
theorem dX13_mend_33 : decode cX13_mend 33 = .ok (.aload_n 0, 1) := by decide +kernel
theorem dX13_mend_34 : decode cX13_mend 34 = .ok (.aload_n 0, 1) := by decide +kernel
theorem dX13_mend_35 : decode cX13_mend 35 = .ok (.getfield 141, 3) := by decide +kernel
theorem dX13_mend_38 : decode cX13_mend 38 = .ok (.iload_n 1, 1) := by decide +kernel
theorem dX13_mend_39 : decode cX13_mend 39 = .ok (.iaload, 1) := by decide +kernel
theorem dX13_mend_40 : decode cX13_mend 40 = .ok (.aload_n 0, 1) := by decide +kernel
theorem dX13_mend_41 : decode cX13_mend 41 = .ok (.getfield 383, 3) := by decide +kernel
theorem dX13_mend_44 : decode cX13_mend 44 = .ok (.invokevirtual 482, 3) := by decide +kernel
theorem dX13_mend_47 : decode cX13_mend 47 = .ok (.iastore, 1) := by decide +kernel
theorem dX13_mend_48 : decode cX13_mend 48 = .ok (.aload_n 0, 1) := by decide +kernel
theorem dX13_mend_49 : decode cX13_mend 49 = .ok (.getfield 147, 3) := by decide +kernel
theorem dX13_mend_52 : decode cX13_mend 52 = .ok (.iload_n 1, 1) := by decide +kernel
theorem dX13_mend_53 : decode cX13_mend 53 = .ok (.iaload, 1) := by decide +kernel
theorem dX13_mend_54 : decode cX13_mend 54 = .ok (.ireturn, 1) := by decide +kernel
theorem dX13_erratum_0 : decode cX13_erratum 0 = .ok (.aload_n 0, 1) := by decide +kernel
theorem dX13_erratum_1 : decode cX13_erratum 1 = .ok (.iload_n 1, 1) := by decide +kernel
theorem dX13_erratum_2 : decode cX13_erratum 2 = .ok (.invokevirtual 497, 3) := by decide +kernel
theorem dX13_erratum_5 : decode cX13_erratum 5 = .ok (.ifCond .eq 52, 3) := by decide +kernel
theorem dX13_erratum_8 : decode cX13_erratum 8 = .ok (.aload_n 0, 1) := by decide +kernel
theorem dX13_erratum_9 : decode cX13_erratum 9 = .ok (.iload_n 1, 1) := by decide +kernel
theorem dX13_erratum_10 : decode cX13_erratum 10 = .ok (.invokevirtual 503, 3) := by decide +kernel
theorem dX13_erratum_13 : decode cX13_erratum 13 = .ok (.ifCond .eq 44, 3) := by decide +kernel
theorem dX13_erratum_16 : decode cX13_erratum 16 = .ok (.aload_n 0, 1) := by decide +kernel
theorem dX13_erratum_17 : decode cX13_erratum 17 = .ok (.getfield 141, 3) := by decide +kernel
theorem dX13_erratum_20 : decode cX13_erratum 20 = .ok (.iload_n 1, 1) := by decide +kernel
theorem dX13_erratum_21 : decode cX13_erratum 21 = .ok (.iaload, 1) := by decide +kernel
theorem dX13_erratum_22 : decode cX13_erratum 22 = .ok (.iconst (-1), 1) := by decide +kernel
theorem dX13_erratum_23 : decode cX13_erratum 23 = .ok (.if_icmp .eq 34, 3) := by decide +kernel
theorem dX13_erratum_26 : decode cX13_erratum 26 = .ok (.iload_n 2, 1) := by decide +kernel
theorem dX13_erratum_27 : decode cX13_erratum 27 = .ok (.iconst 0, 1) := by decide +kernel
theorem dX13_erratum_28 : decode cX13_erratum 28 = .ok (.sipush 999, 3) := by decide +kernel
theorem dX13_erratum_31 : decode cX13_erratum 31 = .ok (.invokestatic 256, 3) := by decide +kernel
theorem dX13_erratum_34 : decode cX13_erratum 34 = .ok (.ifCond .eq 23, 3) := by decide +kernel
theorem dX13_erratum_37 : decode cX13_erratum 37 = .ok (.iload_n 3, 1) := by decide +kernel
theorem dX13_erratum_38 : decode cX13_erratum 38 = .ok (.iconst 0, 1) := by decide +kernel
theorem dX13_erratum_39 : decode cX13_erratum 39 = .ok (.sipush 999, 3) := by decide +kernel
theorem dX13_erratum_42 : decode cX13_erratum 42 = .ok (.invokestatic 256, 3) := by decide +kernel
theorem dX13_erratum_45 : decode cX13_erratum 45 = .ok (.ifCond .eq 12, 3) := by decide +kernel
theorem dX13_erratum_48 : decode cX13_erratum 48 = .ok (.aload_n 0, 1) := by decide +kernel
theorem dX13_erratum_49 : decode cX13_erratum 49 = .ok (.getfield 488, 3) := by decide +kernel
theorem dX13_erratum_52 : decode cX13_erratum 52 = .ok (.bipush 60, 2) := by decide +kernel
theorem dX13_erratum_54 : decode cX13_erratum 54 = .ok (.if_icmp .ne 5, 3) := by decide +kernel
theorem dX13_erratum_57 : decode cX13_erratum 57 = .ok (.iconst (-1), 1) := by decide +kernel
theorem dX13_erratum_58 : decode cX13_erratum 58 = .ok (.ireturn, 1) := by decide +kernel
theorem dX13_erratum_59 : decode cX13_erratum 59 = .ok (.aload_n 0, 1) := by decide +kernel
theorem dX13_erratum_60 : decode cX13_erratum 60 = .ok (.getfield 174, 3) := by decide +kernel
theorem dX13_erratum_63 : decode cX13_erratum 63 = .ok (.aload_n 0, 1) := by decide +kernel
theorem dX13_erratum_64 : decode cX13_erratum 64 = .ok (.getfield 488, 3) := by decide +kernel
theorem dX13_erratum_67 : decode cX13_erratum 67 = .ok (.iload_n 1, 1) := by decide +kernel
theorem dX13_erratum_68 : decode cX13_erratum 68 = .ok (.iastore, 1) := by decide +kernel
theorem dX13_erratum_69 : decode cX13_erratum 69 = .ok (.aload_n 0, 1) := by decide +kernel
theorem dX13_erratum_70 : decode cX13_erratum 70 = .ok (.getfield 177, 3) := by decide +kernel
theorem dX13_erratum_73 : decode cX13_erratum 73 = .ok (.aload_n 0, 1) := by decide +kernel
theorem dX13_erratum_74 : decode cX13_erratum 74 = .ok (.getfield 488, 3) := by decide +kernel
theorem dX13_erratum_77 : decode cX13_erratum 77 = .ok (.iload_n 2, 1) := by decide +kernel
theorem dX13_erratum_78 : decode cX13_erratum 78 = .ok (.iastore, 1) := by decide +kernel
theorem dX13_erratum_79 : decode cX13_erratum 79 = .ok (.aload_n 0, 1) := by decide +kernel
theorem dX13_erratum_80 : decode cX13_erratum 80 = .ok (.getfield 180, 3) := by decide +kernel
theorem dX13_erratum_83 : decode cX13_erratum 83 = .ok (.aload_n 0, 1) := by decide +kernel
theorem dX13_erratum_84 : decode cX13_erratum 84 = .ok (.getfield 488, 3) := by decide +kernel
theorem dX13_erratum_87 : decode cX13_erratum 87 = .ok (.iload_n 3, 1) := by decide +kernel
theorem dX13_erratum_88 : decode cX13_erratum 88 = .ok (.iastore, 1) := by decide +kernel
theorem dX13_erratum_89 : decode cX13_erratum 89 = .ok (.aload_n 0, 1) := by decide +kernel
theorem dX13_erratum_90 : decode cX13_erratum 90 = .ok (.getfield 183, 3) := by decide +kernel
theorem dX13_erratum_93 : decode cX13_erratum 93 = .ok (.aload_n 0, 1) := by decide +kernel
theorem dX13_erratum_94 : decode cX13_erratum 94 = .ok (.getfield 488, 3) := by decide +kernel
theorem dX13_erratum_97 : decode cX13_erratum 97 = .ok (.aload_n 0, 1) := by decide +kernel
theorem dX13_erratum_98 : decode cX13_erratum 98 = .ok (.getfield 383, 3) := by decide +kernel
theorem dX13_erratum_101 : decode cX13_erratum 101 = .ok (.iastore, 1) := by decide +kernel
theorem dX13_erratum_102 : decode cX13_erratum 102 = .ok (.aload_n 0, 1) := by decide +kernel
theorem dX13_erratum_103 : decode cX13_erratum 103 = .ok (.dup, 1) := by decide +kernel
theorem dX13_erratum_104 : decode cX13_erratum 104 = .ok (.getfield 488, 3) := by decide +kernel
theorem dX13_erratum_107 : decode cX13_erratum 107 = .ok (.iconst 1, 1) := by decide +kernel
theorem dX13_erratum_108 : decode cX13_erratum 108 = .ok (.iadd, 1) := by decide +kernel
theorem dX13_erratum_109 : decode cX13_erratum 109 = .ok (.putfield 488, 3) := by decide +kernel
theorem dX13_erratum_112 : decode cX13_erratum 112 = .ok (.aload_n 0, 1) := by decide +kernel
theorem dX13_erratum_113 : decode cX13_erratum 113 = .ok (.getfield 488, 3) := by decide +kernel
theorem dX13_erratum_116 : decode cX13_erratum 116 = .ok (.iconst 1, 1) := by decide +kernel
theorem dX13_erratum_117 : decode cX13_erratum 117 = .ok (.isub, 1) := by decide +kernel
theorem dX13_erratum_118 : decode cX13_erratum 118 = .ok (.ireturn, 1) := by decide +kernel
theorem dX13_misses_0 : decode cX13_misses 0 = .ok (.iload_n 1, 1) := by decide +kernel
theorem dX13_misses_1 : decode cX13_misses 1 = .ok (.iconst 0, 1) := by decide +kernel
theorem dX13_misses_2 : decode cX13_misses 2 = .ok (.aload_n 0, 1) := by decide +kernel
theorem dX13_misses_3 : decode cX13_misses 3 = .ok (.getfield 488, 3) := by decide +kernel
theorem dX13_misses_6 : decode cX13_misses 6 = .ok (.iconst 1, 1) := by decide +kernel
theorem dX13_misses_7 : decode cX13_misses 7 = .ok (.isub, 1) := by decide +kernel
theorem dX13_misses_8 : decode cX13_misses 8 = .ok (.invokestatic 256, 3) := by decide +kernel
theorem dX13_misses_11 : decode cX13_misses 11 = .ok (.ifCond .ne 5, 3) := by decide +kernel
theorem dX13_misses_14 : decode cX13_misses 14 = .ok (.iconst (-1), 1) := by decide +kernel
theorem dX13_misses_15 : decode cX13_misses 15 = .ok (.ireturn, 1) := by decide +kernel
theorem dX13_misses_16 : decode cX13_misses 16 = .ok (.aload_n 0, 1) := by decide +kernel
theorem dX13_misses_17 : decode cX13_misses 17 = .ok (.aload_n 0, 1) := by decide +kernel
theorem dX13_misses_18 : decode cX13_misses 18 = .ok (.getfield 174, 3) := by decide +kernel
theorem dX13_misses_21 : decode cX13_misses 21 = .ok (.iload_n 1, 1) := by decide +kernel
theorem dX13_misses_22 : decode cX13_misses 22 = .ok (.iaload, 1) := by decide +kernel
theorem dX13_misses_23 : decode cX13_misses 23 = .ok (.sipush 2000, 3) := by decide +kernel
theorem dX13_misses_26 : decode cX13_misses 26 = .ok (.iload_n 1, 1) := by decide +kernel
theorem dX13_misses_27 : decode cX13_misses 27 = .ok (.invokevirtual 494, 3) := by decide +kernel
theorem dX13_misses_30 : decode cX13_misses 30 = .ok (.pop, 1) := by decide +kernel
theorem dX13_misses_31 : decode cX13_misses 31 = .ok (.aload_n 0, 1) := by decide +kernel
theorem dX13_misses_32 : decode cX13_misses 32 = .ok (.getfield 491, 3) := by decide +kernel
theorem dX13_misses_35 : decode cX13_misses 35 = .ok (.ireturn, 1) := by decide +kernel
theorem dX13_told_0 : decode cX13_told 0 = .ok (.aload_n 0, 1) := by decide +kernel
theorem dX13_told_1 : decode cX13_told 1 = .ok (.iload_n 1, 1) := by decide +kernel
theorem dX13_told_2 : decode cX13_told 2 = .ok (.invokevirtual 497, 3) := by decide +kernel
theorem dX13_told_5 : decode cX13_told 5 = .ok (.ifCond .ne 5, 3) := by decide +kernel
theorem dX13_told_8 : decode cX13_told 8 = .ok (.iconst (-1), 1) := by decide +kernel
theorem dX13_told_9 : decode cX13_told 9 = .ok (.ireturn, 1) := by decide +kernel
theorem dX13_told_10 : decode cX13_told 10 = .ok (.iload_n 2, 1) := by decide +kernel
theorem dX13_told_11 : decode cX13_told 11 = .ok (.tableswitch 104 0 7 #[45, 52, 62, 69, 76, 83, 90, 97], 45) := by decide +kernel
theorem dX13_told_56 : decode cX13_told 56 = .ok (.aload_n 0, 1) := by decide +kernel
theorem dX13_told_57 : decode cX13_told 57 = .ok (.getfield 147, 3) := by decide +kernel
theorem dX13_told_60 : decode cX13_told 60 = .ok (.iload_n 1, 1) := by decide +kernel
theorem dX13_told_61 : decode cX13_told 61 = .ok (.iaload, 1) := by decide +kernel
theorem dX13_told_62 : decode cX13_told 62 = .ok (.ireturn, 1) := by decide +kernel
theorem dX13_told_63 : decode cX13_told 63 = .ok (.aload_n 0, 1) := by decide +kernel
theorem dX13_told_64 : decode cX13_told 64 = .ok (.iload_n 1, 1) := by decide +kernel
theorem dX13_told_65 : decode cX13_told 65 = .ok (.sipush 2000, 3) := by decide +kernel
theorem dX13_told_68 : decode cX13_told 68 = .ok (.iconst (-1), 1) := by decide +kernel
theorem dX13_told_69 : decode cX13_told 69 = .ok (.invokevirtual 494, 3) := by decide +kernel
theorem dX13_told_72 : decode cX13_told 72 = .ok (.ireturn, 1) := by decide +kernel
theorem dX13_told_73 : decode cX13_told 73 = .ok (.aload_n 0, 1) := by decide +kernel
theorem dX13_told_74 : decode cX13_told 74 = .ok (.getfield 141, 3) := by decide +kernel
theorem dX13_told_77 : decode cX13_told 77 = .ok (.iload_n 1, 1) := by decide +kernel
theorem dX13_told_78 : decode cX13_told 78 = .ok (.iaload, 1) := by decide +kernel
theorem dX13_told_79 : decode cX13_told 79 = .ok (.ireturn, 1) := by decide +kernel
theorem dX13_told_80 : decode cX13_told 80 = .ok (.aload_n 0, 1) := by decide +kernel
theorem dX13_told_81 : decode cX13_told 81 = .ok (.getfield 144, 3) := by decide +kernel
theorem dX13_told_84 : decode cX13_told 84 = .ok (.iload_n 1, 1) := by decide +kernel
theorem dX13_told_85 : decode cX13_told 85 = .ok (.iaload, 1) := by decide +kernel
theorem dX13_told_86 : decode cX13_told 86 = .ok (.ireturn, 1) := by decide +kernel
theorem dX13_told_87 : decode cX13_told 87 = .ok (.aload_n 0, 1) := by decide +kernel
theorem dX13_told_88 : decode cX13_told 88 = .ok (.getfield 135, 3) := by decide +kernel
theorem dX13_told_91 : decode cX13_told 91 = .ok (.iload_n 1, 1) := by decide +kernel
theorem dX13_told_92 : decode cX13_told 92 = .ok (.iaload, 1) := by decide +kernel
theorem dX13_told_93 : decode cX13_told 93 = .ok (.ireturn, 1) := by decide +kernel
theorem dX13_told_94 : decode cX13_told 94 = .ok (.aload_n 0, 1) := by decide +kernel
theorem dX13_told_95 : decode cX13_told 95 = .ok (.getfield 156, 3) := by decide +kernel
theorem dX13_told_98 : decode cX13_told 98 = .ok (.iload_n 1, 1) := by decide +kernel
theorem dX13_told_99 : decode cX13_told 99 = .ok (.iaload, 1) := by decide +kernel
theorem dX13_told_100 : decode cX13_told 100 = .ok (.ireturn, 1) := by decide +kernel
theorem dX13_told_101 : decode cX13_told 101 = .ok (.aload_n 0, 1) := by decide +kernel
theorem dX13_told_102 : decode cX13_told 102 = .ok (.getfield 153, 3) := by decide +kernel
theorem dX13_told_105 : decode cX13_told 105 = .ok (.iload_n 1, 1) := by decide +kernel
theorem dX13_told_106 : decode cX13_told 106 = .ok (.iaload, 1) := by decide +kernel
theorem dX13_told_107 : decode cX13_told 107 = .ok (.ireturn, 1) := by decide +kernel
theorem dX13_told_108 : decode cX13_told 108 = .ok (.aload_n 0, 1) := by decide +kernel
theorem dX13_told_109 : decode cX13_told 109 = .ok (.getfield 138, 3) := by decide +kernel
theorem dX13_told_112 : decode cX13_told 112 = .ok (.iload_n 1, 1) := by decide +kernel
theorem dX13_told_113 : decode cX13_told 113 = .ok (.iaload, 1) := by decide +kernel
theorem dX13_told_114 : decode cX13_told 114 = .ok (.ireturn, 1) := by decide +kernel
theorem dX13_told_115 : decode cX13_told 115 = .ok (.iconst (-1), 1) := by decide +kernel
theorem dX13_told_116 : decode cX13_told 116 = .ok (.ireturn, 1) := by decide +kernel
theorem dX13_canBeSet_0 : decode cX13_canBeSet 0 = .ok (.iconst 0, 1) := by decide +kernel
theorem dX13_canBeSet_1 : decode cX13_canBeSet 1 = .ok (.istore_n 3, 1) := by decide +kernel
theorem dX13_canBeSet_2 : decode cX13_canBeSet 2 = .ok (.iload_n 3, 1) := by decide +kernel
theorem dX13_canBeSet_3 : decode cX13_canBeSet 3 = .ok (.iload_n 2, 1) := by decide +kernel
theorem dX13_canBeSet_4 : decode cX13_canBeSet 4 = .ok (.if_icmp .ge 79, 3) := by decide +kernel
theorem dX13_canBeSet_7 : decode cX13_canBeSet 7 = .ok (.aload_n 0, 1) := by decide +kernel
theorem dX13_canBeSet_8 : decode cX13_canBeSet 8 = .ok (.getfield 210, 3) := by decide +kernel
theorem dX13_canBeSet_11 : decode cX13_canBeSet 11 = .ok (.iload_n 3, 1) := by decide +kernel
theorem dX13_canBeSet_12 : decode cX13_canBeSet 12 = .ok (.iaload, 1) := by decide +kernel
theorem dX13_canBeSet_13 : decode cX13_canBeSet 13 = .ok (.istore 4, 2) := by decide +kernel
theorem dX13_canBeSet_15 : decode cX13_canBeSet 15 = .ok (.aload_n 0, 1) := by decide +kernel
theorem dX13_canBeSet_16 : decode cX13_canBeSet 16 = .ok (.getfield 90, 3) := by decide +kernel
theorem dX13_canBeSet_19 : decode cX13_canBeSet 19 = .ok (.iload 4, 2) := by decide +kernel
theorem dX13_canBeSet_21 : decode cX13_canBeSet 21 = .ok (.iaload, 1) := by decide +kernel
theorem dX13_canBeSet_22 : decode cX13_canBeSet 22 = .ok (.ifCond .ne 55, 3) := by decide +kernel
theorem dX13_canBeSet_25 : decode cX13_canBeSet 25 = .ok (.aload_n 0, 1) := by decide +kernel
theorem dX13_canBeSet_26 : decode cX13_canBeSet 26 = .ok (.getfield 108, 3) := by decide +kernel
theorem dX13_canBeSet_29 : decode cX13_canBeSet 29 = .ok (.iload 4, 2) := by decide +kernel
theorem dX13_canBeSet_31 : decode cX13_canBeSet 31 = .ok (.baload, 1) := by decide +kernel
theorem dX13_canBeSet_32 : decode cX13_canBeSet 32 = .ok (.ifCond .eq 6, 3) := by decide +kernel
theorem dX13_canBeSet_35 : decode cX13_canBeSet 35 = .ok (.goto 42, 3) := by decide +kernel
theorem dX13_canBeSet_38 : decode cX13_canBeSet 38 = .ok (.aload_n 0, 1) := by decide +kernel
theorem dX13_canBeSet_39 : decode cX13_canBeSet 39 = .ok (.iload 4, 2) := by decide +kernel
theorem dX13_canBeSet_41 : decode cX13_canBeSet 41 = .ok (.invokevirtual 458, 3) := by decide +kernel
theorem dX13_canBeSet_44 : decode cX13_canBeSet 44 = .ok (.ifCond .ne 5, 3) := by decide +kernel
theorem dX13_canBeSet_47 : decode cX13_canBeSet 47 = .ok (.iconst 0, 1) := by decide +kernel
theorem dX13_canBeSet_48 : decode cX13_canBeSet 48 = .ok (.ireturn, 1) := by decide +kernel
theorem dX13_canBeSet_49 : decode cX13_canBeSet 49 = .ok (.aload_n 0, 1) := by decide +kernel
theorem dX13_canBeSet_50 : decode cX13_canBeSet 50 = .ok (.iload 4, 2) := by decide +kernel
theorem dX13_canBeSet_52 : decode cX13_canBeSet 52 = .ok (.aload_n 0, 1) := by decide +kernel
theorem dX13_canBeSet_53 : decode cX13_canBeSet 53 = .ok (.getfield 105, 3) := by decide +kernel
theorem dX13_canBeSet_56 : decode cX13_canBeSet 56 = .ok (.iload 4, 2) := by decide +kernel
theorem dX13_canBeSet_58 : decode cX13_canBeSet 58 = .ok (.iaload, 1) := by decide +kernel
theorem dX13_canBeSet_59 : decode cX13_canBeSet 59 = .ok (.invokevirtual 470, 3) := by decide +kernel
theorem dX13_canBeSet_62 : decode cX13_canBeSet 62 = .ok (.aload_n 0, 1) := by decide +kernel
theorem dX13_canBeSet_63 : decode cX13_canBeSet 63 = .ok (.iconst 3, 1) := by decide +kernel
theorem dX13_canBeSet_64 : decode cX13_canBeSet 64 = .ok (.iload_n 1, 1) := by decide +kernel
theorem dX13_canBeSet_65 : decode cX13_canBeSet 65 = .ok (.aload_n 0, 1) := by decide +kernel
theorem dX13_canBeSet_66 : decode cX13_canBeSet 66 = .ok (.getfield 383, 3) := by decide +kernel
theorem dX13_canBeSet_69 : decode cX13_canBeSet 69 = .ok (.invokevirtual 404, 3) := by decide +kernel
theorem dX13_canBeSet_72 : decode cX13_canBeSet 72 = .ok (.ifCond .ne 5, 3) := by decide +kernel
theorem dX13_canBeSet_75 : decode cX13_canBeSet 75 = .ok (.iconst 0, 1) := by decide +kernel
theorem dX13_canBeSet_76 : decode cX13_canBeSet 76 = .ok (.ireturn, 1) := by decide +kernel
theorem dX13_canBeSet_77 : decode cX13_canBeSet 77 = .ok (.iinc 3 1, 3) := by decide +kernel
theorem dX13_canBeSet_80 : decode cX13_canBeSet 80 = .ok (.goto (-78), 3) := by decide +kernel
theorem dX13_canBeSet_83 : decode cX13_canBeSet 83 = .ok (.iconst 1, 1) := by decide +kernel
theorem dX13_canBeSet_84 : decode cX13_canBeSet 84 = .ok (.ireturn, 1) := by decide +kernel
theorem dX13_set_0 : decode cX13_set 0 = .ok (.iload_n 1, 1) := by decide +kernel
theorem dX13_set_1 : decode cX13_set 1 = .ok (.invokestatic 377, 3) := by decide +kernel
theorem dX13_set_4 : decode cX13_set 4 = .ok (.ifCond .eq 12, 3) := by decide +kernel
theorem dX13_set_7 : decode cX13_set 7 = .ok (.aload_n 0, 1) := by decide +kernel
theorem dX13_set_8 : decode cX13_set 8 = .ok (.getfield 68, 3) := by decide +kernel
theorem dX13_set_11 : decode cX13_set 11 = .ok (.iload_n 1, 1) := by decide +kernel
theorem dX13_set_12 : decode cX13_set 12 = .ok (.baload, 1) := by decide +kernel
theorem dX13_set_13 : decode cX13_set 13 = .ok (.ifCond .eq 5, 3) := by decide +kernel
theorem dX13_set_16 : decode cX13_set 16 = .ok (.iconst (-1), 1) := by decide +kernel
theorem dX13_set_17 : decode cX13_set 17 = .ok (.ireturn, 1) := by decide +kernel
theorem dX13_set_18 : decode cX13_set 18 = .ok (.aload_n 0, 1) := by decide +kernel
theorem dX13_set_19 : decode cX13_set 19 = .ok (.iload_n 1, 1) := by decide +kernel
theorem dX13_set_20 : decode cX13_set 20 = .ok (.invokevirtual 442, 3) := by decide +kernel
theorem dX13_set_23 : decode cX13_set 23 = .ok (.istore_n 2, 1) := by decide +kernel
theorem dX13_set_24 : decode cX13_set 24 = .ok (.aload_n 0, 1) := by decide +kernel
theorem dX13_set_25 : decode cX13_set 25 = .ok (.iload_n 1, 1) := by decide +kernel
theorem dX13_set_26 : decode cX13_set 26 = .ok (.iload_n 2, 1) := by decide +kernel
theorem dX13_set_27 : decode cX13_set 27 = .ok (.invokevirtual 506, 3) := by decide +kernel
theorem dX13_set_30 : decode cX13_set 30 = .ok (.ifCond .ne 5, 3) := by decide +kernel
theorem dX13_set_33 : decode cX13_set 33 = .ok (.iconst (-1), 1) := by decide +kernel
theorem dX13_set_34 : decode cX13_set 34 = .ok (.ireturn, 1) := by decide +kernel
theorem dX13_set_35 : decode cX13_set 35 = .ok (.iconst 0, 1) := by decide +kernel
theorem dX13_set_36 : decode cX13_set 36 = .ok (.istore_n 3, 1) := by decide +kernel
theorem dX13_set_37 : decode cX13_set 37 = .ok (.iconst 0, 1) := by decide +kernel
theorem dX13_set_38 : decode cX13_set 38 = .ok (.istore 4, 2) := by decide +kernel
theorem dX13_set_40 : decode cX13_set 40 = .ok (.iconst 0, 1) := by decide +kernel
theorem dX13_set_41 : decode cX13_set 41 = .ok (.istore 5, 2) := by decide +kernel
theorem dX13_set_43 : decode cX13_set 43 = .ok (.iload 5, 2) := by decide +kernel
theorem dX13_set_45 : decode cX13_set 45 = .ok (.iload_n 2, 1) := by decide +kernel
theorem dX13_set_46 : decode cX13_set 46 = .ok (.if_icmp .ge 160, 3) := by decide +kernel
theorem dX13_set_49 : decode cX13_set 49 = .ok (.aload_n 0, 1) := by decide +kernel
theorem dX13_set_50 : decode cX13_set 50 = .ok (.getfield 210, 3) := by decide +kernel
theorem dX13_set_53 : decode cX13_set 53 = .ok (.iload 5, 2) := by decide +kernel
theorem dX13_set_55 : decode cX13_set 55 = .ok (.iaload, 1) := by decide +kernel
theorem dX13_set_56 : decode cX13_set 56 = .ok (.istore 6, 2) := by decide +kernel
theorem dX13_set_58 : decode cX13_set 58 = .ok (.aload_n 0, 1) := by decide +kernel
theorem dX13_set_59 : decode cX13_set 59 = .ok (.getfield 78, 3) := by decide +kernel
theorem dX13_set_62 : decode cX13_set 62 = .ok (.bipush 60, 2) := by decide +kernel
theorem dX13_set_64 : decode cX13_set 64 = .ok (.iload_n 1, 1) := by decide +kernel
theorem dX13_set_65 : decode cX13_set 65 = .ok (.imul, 1) := by decide +kernel
theorem dX13_set_66 : decode cX13_set 66 = .ok (.iload 5, 2) := by decide +kernel
theorem dX13_set_68 : decode cX13_set 68 = .ok (.iadd, 1) := by decide +kernel
theorem dX13_set_69 : decode cX13_set 69 = .ok (.iload 6, 2) := by decide +kernel
theorem dX13_set_71 : decode cX13_set 71 = .ok (.iastore, 1) := by decide +kernel
theorem dX13_set_72 : decode cX13_set 72 = .ok (.aload_n 0, 1) := by decide +kernel
theorem dX13_set_73 : decode cX13_set 73 = .ok (.getfield 114, 3) := by decide +kernel
theorem dX13_set_76 : decode cX13_set 76 = .ok (.iload 6, 2) := by decide +kernel
theorem dX13_set_78 : decode cX13_set 78 = .ok (.iload_n 1, 1) := by decide +kernel
theorem dX13_set_79 : decode cX13_set 79 = .ok (.iastore, 1) := by decide +kernel
theorem dX13_set_80 : decode cX13_set 80 = .ok (.aload_n 0, 1) := by decide +kernel
theorem dX13_set_81 : decode cX13_set 81 = .ok (.getfield 108, 3) := by decide +kernel
theorem dX13_set_84 : decode cX13_set 84 = .ok (.iload 6, 2) := by decide +kernel
theorem dX13_set_86 : decode cX13_set 86 = .ok (.baload, 1) := by decide +kernel
theorem dX13_set_87 : decode cX13_set 87 = .ok (.ifCond .eq 6, 3) := by decide +kernel
theorem dX13_set_90 : decode cX13_set 90 = .ok (.goto 110, 3) := by decide +kernel
theorem dX13_set_93 : decode cX13_set 93 = .ok (.aload_n 0, 1) := by decide +kernel
theorem dX13_set_94 : decode cX13_set 94 = .ok (.getfield 117, 3) := by decide +kernel
theorem dX13_set_97 : decode cX13_set 97 = .ok (.iload 6, 2) := by decide +kernel
theorem dX13_set_99 : decode cX13_set 99 = .ok (.iconst 1, 1) := by decide +kernel
theorem dX13_set_100 : decode cX13_set 100 = .ok (.iload_n 3, 1) := by decide +kernel
theorem dX13_set_101 : decode cX13_set 101 = .ok (.bipush 40, 2) := by decide +kernel
theorem dX13_set_103 : decode cX13_set 103 = .ok (.idiv, 1) := by decide +kernel
theorem dX13_set_104 : decode cX13_set 104 = .ok (.iadd, 1) := by decide +kernel
theorem dX13_set_105 : decode cX13_set 105 = .ok (.iastore, 1) := by decide +kernel
theorem dX13_set_106 : decode cX13_set 106 = .ok (.aload_n 0, 1) := by decide +kernel
theorem dX13_set_107 : decode cX13_set 107 = .ok (.getfield 90, 3) := by decide +kernel
theorem dX13_set_110 : decode cX13_set 110 = .ok (.iload 6, 2) := by decide +kernel
theorem dX13_set_112 : decode cX13_set 112 = .ok (.iaload, 1) := by decide +kernel
theorem dX13_set_113 : decode cX13_set 113 = .ok (.ifCond .eq 26, 3) := by decide +kernel
theorem dX13_set_116 : decode cX13_set 116 = .ok (.iload_n 3, 1) := by decide +kernel
theorem dX13_set_117 : decode cX13_set 117 = .ok (.aload_n 0, 1) := by decide +kernel
theorem dX13_set_118 : decode cX13_set 118 = .ok (.getfield 90, 3) := by decide +kernel
theorem dX13_set_121 : decode cX13_set 121 = .ok (.iload 6, 2) := by decide +kernel
theorem dX13_set_123 : decode cX13_set 123 = .ok (.iaload, 1) := by decide +kernel
theorem dX13_set_124 : decode cX13_set 124 = .ok (.iconst 1, 1) := by decide +kernel
theorem dX13_set_125 : decode cX13_set 125 = .ok (.if_icmp .ne 7, 3) := by decide +kernel
theorem dX13_set_128 : decode cX13_set 128 = .ok (.iconst 1, 1) := by decide +kernel
theorem dX13_set_129 : decode cX13_set 129 = .ok (.goto 5, 3) := by decide +kernel
theorem dX13_set_132 : decode cX13_set 132 = .ok (.bipush 10, 2) := by decide +kernel
theorem dX13_set_134 : decode cX13_set 134 = .ok (.iadd, 1) := by decide +kernel
theorem dX13_set_135 : decode cX13_set 135 = .ok (.istore_n 3, 1) := by decide +kernel
theorem dX13_set_136 : decode cX13_set 136 = .ok (.goto 64, 3) := by decide +kernel
theorem dX13_set_139 : decode cX13_set 139 = .ok (.iconst 0, 1) := by decide +kernel
theorem dX13_set_140 : decode cX13_set 140 = .ok (.istore 7, 2) := by decide +kernel
theorem dX13_set_142 : decode cX13_set 142 = .ok (.iload 7, 2) := by decide +kernel
theorem dX13_set_144 : decode cX13_set 144 = .ok (.aload_n 0, 1) := by decide +kernel
theorem dX13_set_145 : decode cX13_set 145 = .ok (.getfield 452, 3) := by decide +kernel
theorem dX13_set_148 : decode cX13_set 148 = .ok (.if_icmp .ge 52, 3) := by decide +kernel
theorem dX13_set_151 : decode cX13_set 151 = .ok (.aload_n 0, 1) := by decide +kernel
theorem dX13_set_152 : decode cX13_set 152 = .ok (.getfield 135, 3) := by decide +kernel
theorem dX13_set_155 : decode cX13_set 155 = .ok (.iload 7, 2) := by decide +kernel
theorem dX13_set_157 : decode cX13_set 157 = .ok (.iaload, 1) := by decide +kernel
theorem dX13_set_158 : decode cX13_set 158 = .ok (.iload 6, 2) := by decide +kernel
theorem dX13_set_160 : decode cX13_set 160 = .ok (.if_icmp .eq 6, 3) := by decide +kernel
theorem dX13_set_163 : decode cX13_set 163 = .ok (.goto 31, 3) := by decide +kernel
theorem dX13_set_166 : decode cX13_set 166 = .ok (.aload_n 0, 1) := by decide +kernel
theorem dX13_set_167 : decode cX13_set 167 = .ok (.getfield 156, 3) := by decide +kernel
theorem dX13_set_170 : decode cX13_set 170 = .ok (.iload 7, 2) := by decide +kernel
theorem dX13_set_172 : decode cX13_set 172 = .ok (.iconst 1, 1) := by decide +kernel
theorem dX13_set_173 : decode cX13_set 173 = .ok (.iload_n 3, 1) := by decide +kernel
theorem dX13_set_174 : decode cX13_set 174 = .ok (.bipush 40, 2) := by decide +kernel
theorem dX13_set_176 : decode cX13_set 176 = .ok (.idiv, 1) := by decide +kernel
theorem dX13_set_177 : decode cX13_set 177 = .ok (.iadd, 1) := by decide +kernel
theorem dX13_set_178 : decode cX13_set 178 = .ok (.iastore, 1) := by decide +kernel
theorem dX13_set_179 : decode cX13_set 179 = .ok (.aload_n 0, 1) := by decide +kernel
theorem dX13_set_180 : decode cX13_set 180 = .ok (.getfield 159, 3) := by decide +kernel
theorem dX13_set_183 : decode cX13_set 183 = .ok (.iload 7, 2) := by decide +kernel
theorem dX13_set_185 : decode cX13_set 185 = .ok (.iload 4, 2) := by decide +kernel
theorem dX13_set_187 : decode cX13_set 187 = .ok (.iastore, 1) := by decide +kernel
theorem dX13_set_188 : decode cX13_set 188 = .ok (.iinc 4 1, 3) := by decide +kernel
theorem dX13_set_191 : decode cX13_set 191 = .ok (.iinc 3 1, 3) := by decide +kernel
theorem dX13_set_194 : decode cX13_set 194 = .ok (.iinc 7 1, 3) := by decide +kernel
theorem dX13_set_197 : decode cX13_set 197 = .ok (.goto (-55), 3) := by decide +kernel
theorem dX13_set_200 : decode cX13_set 200 = .ok (.iinc 5 1, 3) := by decide +kernel
theorem dX13_set_203 : decode cX13_set 203 = .ok (.goto (-160), 3) := by decide +kernel
theorem dX13_set_206 : decode cX13_set 206 = .ok (.aload_n 0, 1) := by decide +kernel
theorem dX13_set_207 : decode cX13_set 207 = .ok (.getfield 68, 3) := by decide +kernel
theorem dX13_set_210 : decode cX13_set 210 = .ok (.iload_n 1, 1) := by decide +kernel
theorem dX13_set_211 : decode cX13_set 211 = .ok (.iconst 1, 1) := by decide +kernel
theorem dX13_set_212 : decode cX13_set 212 = .ok (.bastore, 1) := by decide +kernel
theorem dX13_set_213 : decode cX13_set 213 = .ok (.aload_n 0, 1) := by decide +kernel
theorem dX13_set_214 : decode cX13_set 214 = .ok (.getfield 72, 3) := by decide +kernel
theorem dX13_set_217 : decode cX13_set 217 = .ok (.iload_n 1, 1) := by decide +kernel
theorem dX13_set_218 : decode cX13_set 218 = .ok (.aload_n 0, 1) := by decide +kernel
theorem dX13_set_219 : decode cX13_set 219 = .ok (.getfield 383, 3) := by decide +kernel
theorem dX13_set_222 : decode cX13_set 222 = .ok (.iastore, 1) := by decide +kernel
theorem dX13_set_223 : decode cX13_set 223 = .ok (.aload_n 0, 1) := by decide +kernel
theorem dX13_set_224 : decode cX13_set 224 = .ok (.getfield 75, 3) := by decide +kernel
theorem dX13_set_227 : decode cX13_set 227 = .ok (.iload_n 1, 1) := by decide +kernel
theorem dX13_set_228 : decode cX13_set 228 = .ok (.iload_n 2, 1) := by decide +kernel
theorem dX13_set_229 : decode cX13_set 229 = .ok (.iastore, 1) := by decide +kernel
theorem dX13_set_230 : decode cX13_set 230 = .ok (.aload_n 0, 1) := by decide +kernel
theorem dX13_set_231 : decode cX13_set 231 = .ok (.getfield 81, 3) := by decide +kernel
theorem dX13_set_234 : decode cX13_set 234 = .ok (.iload_n 1, 1) := by decide +kernel
theorem dX13_set_235 : decode cX13_set 235 = .ok (.iload_n 3, 1) := by decide +kernel
theorem dX13_set_236 : decode cX13_set 236 = .ok (.iastore, 1) := by decide +kernel
theorem dX13_set_237 : decode cX13_set 237 = .ok (.iload_n 3, 1) := by decide +kernel
theorem dX13_set_238 : decode cX13_set 238 = .ok (.bipush 40, 2) := by decide +kernel
theorem dX13_set_240 : decode cX13_set 240 = .ok (.iadd, 1) := by decide +kernel
theorem dX13_set_241 : decode cX13_set 241 = .ok (.iconst 1, 1) := by decide +kernel
theorem dX13_set_242 : decode cX13_set 242 = .ok (.isub, 1) := by decide +kernel
theorem dX13_set_243 : decode cX13_set 243 = .ok (.bipush 40, 2) := by decide +kernel
theorem dX13_set_245 : decode cX13_set 245 = .ok (.idiv, 1) := by decide +kernel
theorem dX13_set_246 : decode cX13_set 246 = .ok (.ireturn, 1) := by decide +kernel
theorem dX13_page_0 : decode cX13_page 0 = .ok (.aload_n 0, 1) := by decide +kernel
theorem dX13_page_1 : decode cX13_page 1 = .ok (.iload_n 1, 1) := by decide +kernel
theorem dX13_page_2 : decode cX13_page 2 = .ok (.invokevirtual 421, 3) := by decide +kernel
theorem dX13_page_5 : decode cX13_page 5 = .ok (.ifCond .eq 12, 3) := by decide +kernel
theorem dX13_page_8 : decode cX13_page 8 = .ok (.aload_n 0, 1) := by decide +kernel
theorem dX13_page_9 : decode cX13_page 9 = .ok (.getfield 117, 3) := by decide +kernel
theorem dX13_page_12 : decode cX13_page 12 = .ok (.iload_n 1, 1) := by decide +kernel
theorem dX13_page_13 : decode cX13_page 13 = .ok (.iaload, 1) := by decide +kernel
theorem dX13_page_14 : decode cX13_page 14 = .ok (.goto 4, 3) := by decide +kernel
theorem dX13_page_17 : decode cX13_page 17 = .ok (.iconst (-1), 1) := by decide +kernel
theorem dX13_page_18 : decode cX13_page 18 = .ok (.ireturn, 1) := by decide +kernel
theorem dX13_isGone_0 : decode cX13_isGone 0 = .ok (.aload_n 0, 1) := by decide +kernel
theorem dX13_isGone_1 : decode cX13_isGone 1 = .ok (.getfield 108, 3) := by decide +kernel
theorem dX13_isGone_4 : decode cX13_isGone 4 = .ok (.iload_n 1, 1) := by decide +kernel
theorem dX13_isGone_5 : decode cX13_isGone 5 = .ok (.baload, 1) := by decide +kernel
theorem dX13_isGone_6 : decode cX13_isGone 6 = .ok (.ifCond .ne 13, 3) := by decide +kernel
theorem dX13_isGone_9 : decode cX13_isGone 9 = .ok (.aload_n 0, 1) := by decide +kernel
theorem dX13_isGone_10 : decode cX13_isGone 10 = .ok (.iload_n 1, 1) := by decide +kernel
theorem dX13_isGone_11 : decode cX13_isGone 11 = .ok (.invokevirtual 433, 3) := by decide +kernel
theorem dX13_isGone_14 : decode cX13_isGone 14 = .ok (.bipush 6, 2) := by decide +kernel
theorem dX13_isGone_16 : decode cX13_isGone 16 = .ok (.if_icmp .ne 7, 3) := by decide +kernel
theorem dX13_isGone_19 : decode cX13_isGone 19 = .ok (.iconst 1, 1) := by decide +kernel
theorem dX13_isGone_20 : decode cX13_isGone 20 = .ok (.goto 4, 3) := by decide +kernel
theorem dX13_isGone_23 : decode cX13_isGone 23 = .ok (.iconst 0, 1) := by decide +kernel
theorem dX13_isGone_24 : decode cX13_isGone 24 = .ok (.ireturn, 1) := by decide +kernel
theorem dX13_endOf_0 : decode cX13_endOf 0 = .ok (.iload_n 1, 1) := by decide +kernel
theorem dX13_endOf_1 : decode cX13_endOf 1 = .ok (.istore_n 2, 1) := by decide +kernel
theorem dX13_endOf_2 : decode cX13_endOf 2 = .ok (.iconst 0, 1) := by decide +kernel
theorem dX13_endOf_3 : decode cX13_endOf 3 = .ok (.istore_n 3, 1) := by decide +kernel
theorem dX13_endOf_4 : decode cX13_endOf 4 = .ok (.iload_n 3, 1) := by decide +kernel
theorem dX13_endOf_5 : decode cX13_endOf 5 = .ok (.aload_n 0, 1) := by decide +kernel
theorem dX13_endOf_6 : decode cX13_endOf 6 = .ok (.getfield 418, 3) := by decide +kernel
theorem dX13_endOf_9 : decode cX13_endOf 9 = .ok (.if_icmp .gt 28, 3) := by decide +kernel
theorem dX13_endOf_12 : decode cX13_endOf 12 = .ok (.aload_n 0, 1) := by decide +kernel
theorem dX13_endOf_13 : decode cX13_endOf 13 = .ok (.getfield 90, 3) := by decide +kernel
theorem dX13_endOf_16 : decode cX13_endOf 16 = .ok (.iload_n 2, 1) := by decide +kernel
theorem dX13_endOf_17 : decode cX13_endOf 17 = .ok (.iaload, 1) := by decide +kernel
theorem dX13_endOf_18 : decode cX13_endOf 18 = .ok (.iconst 1, 1) := by decide +kernel
theorem dX13_endOf_19 : decode cX13_endOf 19 = .ok (.if_icmp .eq 5, 3) := by decide +kernel
theorem dX13_endOf_22 : decode cX13_endOf 22 = .ok (.iload_n 2, 1) := by decide +kernel
theorem dX13_endOf_23 : decode cX13_endOf 23 = .ok (.ireturn, 1) := by decide +kernel
theorem dX13_endOf_24 : decode cX13_endOf 24 = .ok (.aload_n 0, 1) := by decide +kernel
theorem dX13_endOf_25 : decode cX13_endOf 25 = .ok (.getfield 102, 3) := by decide +kernel
theorem dX13_endOf_28 : decode cX13_endOf 28 = .ok (.iload_n 2, 1) := by decide +kernel
theorem dX13_endOf_29 : decode cX13_endOf 29 = .ok (.iaload, 1) := by decide +kernel
theorem dX13_endOf_30 : decode cX13_endOf 30 = .ok (.istore_n 2, 1) := by decide +kernel
theorem dX13_endOf_31 : decode cX13_endOf 31 = .ok (.iinc 3 1, 3) := by decide +kernel
theorem dX13_endOf_34 : decode cX13_endOf 34 = .ok (.goto (-30), 3) := by decide +kernel
theorem dX13_endOf_37 : decode cX13_endOf 37 = .ok (.iconst (-1), 1) := by decide +kernel
theorem dX13_endOf_38 : decode cX13_endOf 38 = .ok (.ireturn, 1) := by decide +kernel
theorem dX13_ends_0 : decode cX13_ends 0 = .ok (.aload_n 0, 1) := by decide +kernel
theorem dX13_ends_1 : decode cX13_ends 1 = .ok (.iload_n 1, 1) := by decide +kernel
theorem dX13_ends_2 : decode cX13_ends 2 = .ok (.invokevirtual 421, 3) := by decide +kernel
theorem dX13_ends_5 : decode cX13_ends 5 = .ok (.ifCond .eq 21, 3) := by decide +kernel
theorem dX13_ends_8 : decode cX13_ends 8 = .ok (.aload_n 0, 1) := by decide +kernel
theorem dX13_ends_9 : decode cX13_ends 9 = .ok (.getfield 90, 3) := by decide +kernel
theorem dX13_ends_12 : decode cX13_ends 12 = .ok (.iload_n 1, 1) := by decide +kernel
theorem dX13_ends_13 : decode cX13_ends 13 = .ok (.iaload, 1) := by decide +kernel
theorem dX13_ends_14 : decode cX13_ends 14 = .ok (.iconst 1, 1) := by decide +kernel
theorem dX13_ends_15 : decode cX13_ends 15 = .ok (.if_icmp .ne 11, 3) := by decide +kernel
theorem dX13_ends_18 : decode cX13_ends 18 = .ok (.aload_n 0, 1) := by decide +kernel
theorem dX13_ends_19 : decode cX13_ends 19 = .ok (.iload_n 1, 1) := by decide +kernel
theorem dX13_ends_20 : decode cX13_ends 20 = .ok (.invokevirtual 509, 3) := by decide +kernel
theorem dX13_ends_23 : decode cX13_ends 23 = .ok (.goto 4, 3) := by decide +kernel
theorem dX13_ends_26 : decode cX13_ends 26 = .ok (.iconst (-1), 1) := by decide +kernel
theorem dX13_ends_27 : decode cX13_ends 27 = .ok (.ireturn, 1) := by decide +kernel
theorem dX13_promise_0 : decode cX13_promise 0 = .ok (.aload_n 0, 1) := by decide +kernel
theorem dX13_promise_1 : decode cX13_promise 1 = .ok (.iload_n 1, 1) := by decide +kernel
theorem dX13_promise_2 : decode cX13_promise 2 = .ok (.invokevirtual 421, 3) := by decide +kernel
theorem dX13_promise_5 : decode cX13_promise 5 = .ok (.ifCond .eq 21, 3) := by decide +kernel
theorem dX13_promise_8 : decode cX13_promise 8 = .ok (.aload_n 0, 1) := by decide +kernel
theorem dX13_promise_9 : decode cX13_promise 9 = .ok (.getfield 90, 3) := by decide +kernel
theorem dX13_promise_12 : decode cX13_promise 12 = .ok (.iload_n 1, 1) := by decide +kernel
theorem dX13_promise_13 : decode cX13_promise 13 = .ok (.iaload, 1) := by decide +kernel
theorem dX13_promise_14 : decode cX13_promise 14 = .ok (.iconst 1, 1) := by decide +kernel
theorem dX13_promise_15 : decode cX13_promise 15 = .ok (.if_icmp .ne 11, 3) := by decide +kernel
theorem dX13_promise_18 : decode cX13_promise 18 = .ok (.aload_n 0, 1) := by decide +kernel
theorem dX13_promise_19 : decode cX13_promise 19 = .ok (.iload_n 1, 1) := by decide +kernel
theorem dX13_promise_20 : decode cX13_promise 20 = .ok (.invokevirtual 512, 3) := by decide +kernel
theorem dX13_promise_23 : decode cX13_promise 23 = .ok (.ifCond .eq 5, 3) := by decide +kernel
theorem dX13_promise_26 : decode cX13_promise 26 = .ok (.iconst (-1), 1) := by decide +kernel
theorem dX13_promise_27 : decode cX13_promise 27 = .ok (.ireturn, 1) := by decide +kernel
theorem dX13_promise_28 : decode cX13_promise 28 = .ok (.aload_n 0, 1) := by decide +kernel
theorem dX13_promise_29 : decode cX13_promise 29 = .ok (.iload_n 1, 1) := by decide +kernel
theorem dX13_promise_30 : decode cX13_promise 30 = .ok (.invokevirtual 509, 3) := by decide +kernel
theorem dX13_promise_33 : decode cX13_promise 33 = .ok (.istore_n 2, 1) := by decide +kernel
theorem dX13_promise_34 : decode cX13_promise 34 = .ok (.iload_n 2, 1) := by decide +kernel
theorem dX13_promise_35 : decode cX13_promise 35 = .ok (.iconst (-1), 1) := by decide +kernel
theorem dX13_promise_36 : decode cX13_promise 36 = .ok (.if_icmp .ne 5, 3) := by decide +kernel
theorem dX13_promise_39 : decode cX13_promise 39 = .ok (.iconst 3, 1) := by decide +kernel
theorem dX13_promise_40 : decode cX13_promise 40 = .ok (.ireturn, 1) := by decide +kernel
theorem dX13_promise_41 : decode cX13_promise 41 = .ok (.aload_n 0, 1) := by decide +kernel
theorem dX13_promise_42 : decode cX13_promise 42 = .ok (.getfield 102, 3) := by decide +kernel
theorem dX13_promise_45 : decode cX13_promise 45 = .ok (.iload_n 1, 1) := by decide +kernel
theorem dX13_promise_46 : decode cX13_promise 46 = .ok (.iaload, 1) := by decide +kernel
theorem dX13_promise_47 : decode cX13_promise 47 = .ok (.istore_n 3, 1) := by decide +kernel
theorem dX13_promise_48 : decode cX13_promise 48 = .ok (.iload_n 3, 1) := by decide +kernel
theorem dX13_promise_49 : decode cX13_promise 49 = .ok (.iload_n 2, 1) := by decide +kernel
theorem dX13_promise_50 : decode cX13_promise 50 = .ok (.if_icmp .eq 23, 3) := by decide +kernel
theorem dX13_promise_53 : decode cX13_promise 53 = .ok (.aload_n 0, 1) := by decide +kernel
theorem dX13_promise_54 : decode cX13_promise 54 = .ok (.iload_n 3, 1) := by decide +kernel
theorem dX13_promise_55 : decode cX13_promise 55 = .ok (.invokevirtual 512, 3) := by decide +kernel
theorem dX13_promise_58 : decode cX13_promise 58 = .ok (.ifCond .eq 5, 3) := by decide +kernel
theorem dX13_promise_61 : decode cX13_promise 61 = .ok (.iconst 2, 1) := by decide +kernel
theorem dX13_promise_62 : decode cX13_promise 62 = .ok (.ireturn, 1) := by decide +kernel
theorem dX13_promise_63 : decode cX13_promise 63 = .ok (.aload_n 0, 1) := by decide +kernel
theorem dX13_promise_64 : decode cX13_promise 64 = .ok (.getfield 102, 3) := by decide +kernel
theorem dX13_promise_67 : decode cX13_promise 67 = .ok (.iload_n 3, 1) := by decide +kernel
theorem dX13_promise_68 : decode cX13_promise 68 = .ok (.iaload, 1) := by decide +kernel
theorem dX13_promise_69 : decode cX13_promise 69 = .ok (.istore_n 3, 1) := by decide +kernel
theorem dX13_promise_70 : decode cX13_promise 70 = .ok (.goto (-22), 3) := by decide +kernel
theorem dX13_promise_73 : decode cX13_promise 73 = .ok (.aload_n 0, 1) := by decide +kernel
theorem dX13_promise_74 : decode cX13_promise 74 = .ok (.iload_n 2, 1) := by decide +kernel
theorem dX13_promise_75 : decode cX13_promise 75 = .ok (.invokevirtual 512, 3) := by decide +kernel
theorem dX13_promise_78 : decode cX13_promise 78 = .ok (.ifCond .eq 5, 3) := by decide +kernel
theorem dX13_promise_81 : decode cX13_promise 81 = .ok (.iconst 2, 1) := by decide +kernel
theorem dX13_promise_82 : decode cX13_promise 82 = .ok (.ireturn, 1) := by decide +kernel
theorem dX13_promise_83 : decode cX13_promise 83 = .ok (.aload_n 0, 1) := by decide +kernel
theorem dX13_promise_84 : decode cX13_promise 84 = .ok (.getfield 114, 3) := by decide +kernel
theorem dX13_promise_87 : decode cX13_promise 87 = .ok (.iload_n 2, 1) := by decide +kernel
theorem dX13_promise_88 : decode cX13_promise 88 = .ok (.iaload, 1) := by decide +kernel
theorem dX13_promise_89 : decode cX13_promise 89 = .ok (.iconst (-1), 1) := by decide +kernel
theorem dX13_promise_90 : decode cX13_promise 90 = .ok (.if_icmp .eq 7, 3) := by decide +kernel
theorem dX13_promise_93 : decode cX13_promise 93 = .ok (.iconst 0, 1) := by decide +kernel
theorem dX13_promise_94 : decode cX13_promise 94 = .ok (.goto 4, 3) := by decide +kernel
theorem dX13_promise_97 : decode cX13_promise 97 = .ok (.iconst 1, 1) := by decide +kernel
theorem dX13_promise_98 : decode cX13_promise 98 = .ok (.ireturn, 1) := by decide +kernel
theorem dX13_promised_0 : decode cX13_promised 0 = .ok (.aload_n 0, 1) := by decide +kernel
theorem dX13_promised_1 : decode cX13_promised 1 = .ok (.iload_n 1, 1) := by decide +kernel
theorem dX13_promised_2 : decode cX13_promised 2 = .ok (.invokevirtual 449, 3) := by decide +kernel
theorem dX13_promised_5 : decode cX13_promised 5 = .ok (.ifCond .ne 5, 3) := by decide +kernel
theorem dX13_promised_8 : decode cX13_promised 8 = .ok (.iconst (-1), 1) := by decide +kernel
theorem dX13_promised_9 : decode cX13_promised 9 = .ok (.ireturn, 1) := by decide +kernel
theorem dX13_promised_10 : decode cX13_promised 10 = .ok (.iconst 0, 1) := by decide +kernel
theorem dX13_promised_11 : decode cX13_promised 11 = .ok (.istore_n 2, 1) := by decide +kernel
theorem dX13_promised_12 : decode cX13_promised 12 = .ok (.iconst 0, 1) := by decide +kernel
theorem dX13_promised_13 : decode cX13_promised 13 = .ok (.istore_n 3, 1) := by decide +kernel
theorem dX13_promised_14 : decode cX13_promised 14 = .ok (.iload_n 3, 1) := by decide +kernel
theorem dX13_promised_15 : decode cX13_promised 15 = .ok (.aload_n 0, 1) := by decide +kernel
theorem dX13_promised_16 : decode cX13_promised 16 = .ok (.getfield 418, 3) := by decide +kernel
theorem dX13_promised_19 : decode cX13_promised 19 = .ok (.if_icmp .ge 73, 3) := by decide +kernel
theorem dX13_promised_22 : decode cX13_promised 22 = .ok (.aload_n 0, 1) := by decide +kernel
theorem dX13_promised_23 : decode cX13_promised 23 = .ok (.getfield 90, 3) := by decide +kernel
theorem dX13_promised_26 : decode cX13_promised 26 = .ok (.iload_n 3, 1) := by decide +kernel
theorem dX13_promised_27 : decode cX13_promised 27 = .ok (.iaload, 1) := by decide +kernel
theorem dX13_promised_28 : decode cX13_promised 28 = .ok (.iconst 1, 1) := by decide +kernel
theorem dX13_promised_29 : decode cX13_promised 29 = .ok (.if_icmp .ne 20, 3) := by decide +kernel
theorem dX13_promised_32 : decode cX13_promised 32 = .ok (.aload_n 0, 1) := by decide +kernel
theorem dX13_promised_33 : decode cX13_promised 33 = .ok (.getfield 108, 3) := by decide +kernel
theorem dX13_promised_36 : decode cX13_promised 36 = .ok (.iload_n 3, 1) := by decide +kernel
theorem dX13_promised_37 : decode cX13_promised 37 = .ok (.baload, 1) := by decide +kernel
theorem dX13_promised_38 : decode cX13_promised 38 = .ok (.ifCond .ne 11, 3) := by decide +kernel
theorem dX13_promised_41 : decode cX13_promised 41 = .ok (.aload_n 0, 1) := by decide +kernel
theorem dX13_promised_42 : decode cX13_promised 42 = .ok (.iload_n 3, 1) := by decide +kernel
theorem dX13_promised_43 : decode cX13_promised 43 = .ok (.invokevirtual 509, 3) := by decide +kernel
theorem dX13_promised_46 : decode cX13_promised 46 = .ok (.goto 4, 3) := by decide +kernel
theorem dX13_promised_49 : decode cX13_promised 49 = .ok (.iconst (-1), 1) := by decide +kernel
theorem dX13_promised_50 : decode cX13_promised 50 = .ok (.istore 4, 2) := by decide +kernel
theorem dX13_promised_52 : decode cX13_promised 52 = .ok (.iload_n 2, 1) := by decide +kernel
theorem dX13_promised_53 : decode cX13_promised 53 = .ok (.iload 4, 2) := by decide +kernel
theorem dX13_promised_55 : decode cX13_promised 55 = .ok (.iconst (-1), 1) := by decide +kernel
theorem dX13_promised_56 : decode cX13_promised 56 = .ok (.if_icmp .eq 27, 3) := by decide +kernel
theorem dX13_promised_59 : decode cX13_promised 59 = .ok (.aload_n 0, 1) := by decide +kernel
theorem dX13_promised_60 : decode cX13_promised 60 = .ok (.iload 4, 2) := by decide +kernel
theorem dX13_promised_62 : decode cX13_promised 62 = .ok (.invokevirtual 485, 3) := by decide +kernel
theorem dX13_promised_65 : decode cX13_promised 65 = .ok (.ifCond .eq 18, 3) := by decide +kernel
theorem dX13_promised_68 : decode cX13_promised 68 = .ok (.aload_n 0, 1) := by decide +kernel
theorem dX13_promised_69 : decode cX13_promised 69 = .ok (.getfield 105, 3) := by decide +kernel
theorem dX13_promised_72 : decode cX13_promised 72 = .ok (.iload 4, 2) := by decide +kernel
theorem dX13_promised_74 : decode cX13_promised 74 = .ok (.iaload, 1) := by decide +kernel
theorem dX13_promised_75 : decode cX13_promised 75 = .ok (.iload_n 1, 1) := by decide +kernel
theorem dX13_promised_76 : decode cX13_promised 76 = .ok (.if_icmp .ne 7, 3) := by decide +kernel
theorem dX13_promised_79 : decode cX13_promised 79 = .ok (.iconst 1, 1) := by decide +kernel
theorem dX13_promised_80 : decode cX13_promised 80 = .ok (.goto 4, 3) := by decide +kernel
theorem dX13_promised_83 : decode cX13_promised 83 = .ok (.iconst 0, 1) := by decide +kernel
theorem dX13_promised_84 : decode cX13_promised 84 = .ok (.iadd, 1) := by decide +kernel
theorem dX13_promised_85 : decode cX13_promised 85 = .ok (.istore_n 2, 1) := by decide +kernel
theorem dX13_promised_86 : decode cX13_promised 86 = .ok (.iinc 3 1, 3) := by decide +kernel
theorem dX13_promised_89 : decode cX13_promised 89 = .ok (.goto (-75), 3) := by decide +kernel
theorem dX13_promised_92 : decode cX13_promised 92 = .ok (.iload_n 2, 1) := by decide +kernel
theorem dX13_promised_93 : decode cX13_promised 93 = .ok (.ireturn, 1) := by decide +kernel
theorem dX13_subscribe_0 : decode cX13_subscribe 0 = .ok (.iload_n 1, 1) := by decide +kernel
theorem dX13_subscribe_1 : decode cX13_subscribe 1 = .ok (.iconst 0, 1) := by decide +kernel
theorem dX13_subscribe_2 : decode cX13_subscribe 2 = .ok (.bipush 9, 2) := by decide +kernel
theorem dX13_subscribe_4 : decode cX13_subscribe 4 = .ok (.invokestatic 256, 3) := by decide +kernel
theorem dX13_subscribe_7 : decode cX13_subscribe 7 = .ok (.ifCond .eq 30, 3) := by decide +kernel
theorem dX13_subscribe_10 : decode cX13_subscribe 10 = .ok (.iload_n 2, 1) := by decide +kernel
theorem dX13_subscribe_11 : decode cX13_subscribe 11 = .ok (.invokestatic 377, 3) := by decide +kernel
theorem dX13_subscribe_14 : decode cX13_subscribe 14 = .ok (.ifCond .eq 23, 3) := by decide +kernel
theorem dX13_subscribe_17 : decode cX13_subscribe 17 = .ok (.iload_n 3, 1) := by decide +kernel
theorem dX13_subscribe_18 : decode cX13_subscribe 18 = .ok (.iconst 1, 1) := by decide +kernel
theorem dX13_subscribe_19 : decode cX13_subscribe 19 = .ok (.sipush 999, 3) := by decide +kernel
theorem dX13_subscribe_22 : decode cX13_subscribe 22 = .ok (.invokestatic 256, 3) := by decide +kernel
theorem dX13_subscribe_25 : decode cX13_subscribe 25 = .ok (.ifCond .eq 12, 3) := by decide +kernel
theorem dX13_subscribe_28 : decode cX13_subscribe 28 = .ok (.aload_n 0, 1) := by decide +kernel
theorem dX13_subscribe_29 : decode cX13_subscribe 29 = .ok (.getfield 189, 3) := by decide +kernel
theorem dX13_subscribe_32 : decode cX13_subscribe 32 = .ok (.iload_n 1, 1) := by decide +kernel
theorem dX13_subscribe_33 : decode cX13_subscribe 33 = .ok (.iaload, 1) := by decide +kernel
theorem dX13_subscribe_34 : decode cX13_subscribe 34 = .ok (.ifCond .le 5, 3) := by decide +kernel
theorem dX13_subscribe_37 : decode cX13_subscribe 37 = .ok (.iconst 0, 1) := by decide +kernel
theorem dX13_subscribe_38 : decode cX13_subscribe 38 = .ok (.ireturn, 1) := by decide +kernel
theorem dX13_subscribe_39 : decode cX13_subscribe 39 = .ok (.aload_n 0, 1) := by decide +kernel
theorem dX13_subscribe_40 : decode cX13_subscribe 40 = .ok (.getfield 186, 3) := by decide +kernel
theorem dX13_subscribe_43 : decode cX13_subscribe 43 = .ok (.iload_n 1, 1) := by decide +kernel
theorem dX13_subscribe_44 : decode cX13_subscribe 44 = .ok (.iload_n 2, 1) := by decide +kernel
theorem dX13_subscribe_45 : decode cX13_subscribe 45 = .ok (.iastore, 1) := by decide +kernel
theorem dX13_subscribe_46 : decode cX13_subscribe 46 = .ok (.aload_n 0, 1) := by decide +kernel
theorem dX13_subscribe_47 : decode cX13_subscribe 47 = .ok (.getfield 189, 3) := by decide +kernel
theorem dX13_subscribe_50 : decode cX13_subscribe 50 = .ok (.iload_n 1, 1) := by decide +kernel
theorem dX13_subscribe_51 : decode cX13_subscribe 51 = .ok (.iload_n 3, 1) := by decide +kernel
theorem dX13_subscribe_52 : decode cX13_subscribe 52 = .ok (.iastore, 1) := by decide +kernel
theorem dX13_subscribe_53 : decode cX13_subscribe 53 = .ok (.iconst 1, 1) := by decide +kernel
theorem dX13_subscribe_54 : decode cX13_subscribe 54 = .ok (.ireturn, 1) := by decide +kernel
theorem dX13_owed_0 : decode cX13_owed 0 = .ok (.iload_n 1, 1) := by decide +kernel
theorem dX13_owed_1 : decode cX13_owed 1 = .ok (.iconst 0, 1) := by decide +kernel
theorem dX13_owed_2 : decode cX13_owed 2 = .ok (.bipush 9, 2) := by decide +kernel
theorem dX13_owed_4 : decode cX13_owed 4 = .ok (.invokestatic 256, 3) := by decide +kernel
theorem dX13_owed_7 : decode cX13_owed 7 = .ok (.ifCond .eq 38, 3) := by decide +kernel
theorem dX13_owed_10 : decode cX13_owed 10 = .ok (.aload_n 0, 1) := by decide +kernel
theorem dX13_owed_11 : decode cX13_owed 11 = .ok (.getfield 189, 3) := by decide +kernel
theorem dX13_owed_14 : decode cX13_owed 14 = .ok (.iload_n 1, 1) := by decide +kernel
theorem dX13_owed_15 : decode cX13_owed 15 = .ok (.iaload, 1) := by decide +kernel
theorem dX13_owed_16 : decode cX13_owed 16 = .ok (.ifCond .eq 29, 3) := by decide +kernel
theorem dX13_owed_19 : decode cX13_owed 19 = .ok (.iload_n 2, 1) := by decide +kernel
theorem dX13_owed_20 : decode cX13_owed 20 = .ok (.invokestatic 377, 3) := by decide +kernel
theorem dX13_owed_23 : decode cX13_owed 23 = .ok (.ifCond .eq 22, 3) := by decide +kernel
theorem dX13_owed_26 : decode cX13_owed 26 = .ok (.aload_n 0, 1) := by decide +kernel
theorem dX13_owed_27 : decode cX13_owed 27 = .ok (.getfield 68, 3) := by decide +kernel
theorem dX13_owed_30 : decode cX13_owed 30 = .ok (.iload_n 2, 1) := by decide +kernel
theorem dX13_owed_31 : decode cX13_owed 31 = .ok (.baload, 1) := by decide +kernel
theorem dX13_owed_32 : decode cX13_owed 32 = .ok (.ifCond .eq 13, 3) := by decide +kernel
theorem dX13_owed_35 : decode cX13_owed 35 = .ok (.iload_n 2, 1) := by decide +kernel
theorem dX13_owed_36 : decode cX13_owed 36 = .ok (.aload_n 0, 1) := by decide +kernel
theorem dX13_owed_37 : decode cX13_owed 37 = .ok (.getfield 186, 3) := by decide +kernel
theorem dX13_owed_40 : decode cX13_owed 40 = .ok (.iload_n 1, 1) := by decide +kernel
theorem dX13_owed_41 : decode cX13_owed 41 = .ok (.iaload, 1) := by decide +kernel
theorem dX13_owed_42 : decode cX13_owed 42 = .ok (.if_icmp .ge 5, 3) := by decide +kernel
theorem dX13_owed_45 : decode cX13_owed 45 = .ok (.iconst (-1), 1) := by decide +kernel
theorem dX13_owed_46 : decode cX13_owed 46 = .ok (.ireturn, 1) := by decide +kernel
theorem dX13_owed_47 : decode cX13_owed 47 = .ok (.iconst 0, 1) := by decide +kernel
theorem dX13_owed_48 : decode cX13_owed 48 = .ok (.istore_n 3, 1) := by decide +kernel
theorem dX13_owed_49 : decode cX13_owed 49 = .ok (.iload_n 3, 1) := by decide +kernel
theorem dX13_owed_50 : decode cX13_owed 50 = .ok (.bipush 9, 2) := by decide +kernel
theorem dX13_owed_52 : decode cX13_owed 52 = .ok (.if_icmp .ge 16, 3) := by decide +kernel
theorem dX13_owed_55 : decode cX13_owed 55 = .ok (.aload_n 0, 1) := by decide +kernel
theorem dX13_owed_56 : decode cX13_owed 56 = .ok (.getfield 195, 3) := by decide +kernel
theorem dX13_owed_59 : decode cX13_owed 59 = .ok (.iload_n 3, 1) := by decide +kernel
theorem dX13_owed_60 : decode cX13_owed 60 = .ok (.iconst 0, 1) := by decide +kernel
theorem dX13_owed_61 : decode cX13_owed 61 = .ok (.iastore, 1) := by decide +kernel
theorem dX13_owed_62 : decode cX13_owed 62 = .ok (.iinc 3 1, 3) := by decide +kernel
theorem dX13_owed_65 : decode cX13_owed 65 = .ok (.goto (-16), 3) := by decide +kernel
theorem dX13_owed_68 : decode cX13_owed 68 = .ok (.iconst 0, 1) := by decide +kernel
theorem dX13_owed_69 : decode cX13_owed 69 = .ok (.istore_n 3, 1) := by decide +kernel
theorem dX13_owed_70 : decode cX13_owed 70 = .ok (.iload_n 3, 1) := by decide +kernel
theorem dX13_owed_71 : decode cX13_owed 71 = .ok (.aload_n 0, 1) := by decide +kernel
theorem dX13_owed_72 : decode cX13_owed 72 = .ok (.getfield 418, 3) := by decide +kernel
theorem dX13_owed_75 : decode cX13_owed 75 = .ok (.if_icmp .ge 43, 3) := by decide +kernel
theorem dX13_owed_78 : decode cX13_owed 78 = .ok (.aload_n 0, 1) := by decide +kernel
theorem dX13_owed_79 : decode cX13_owed 79 = .ok (.getfield 195, 3) := by decide +kernel
theorem dX13_owed_82 : decode cX13_owed 82 = .ok (.bipush 8, 2) := by decide +kernel
theorem dX13_owed_84 : decode cX13_owed 84 = .ok (.dup2, 1) := by decide +kernel
theorem dX13_owed_85 : decode cX13_owed 85 = .ok (.iaload, 1) := by decide +kernel
theorem dX13_owed_86 : decode cX13_owed 86 = .ok (.aload_n 0, 1) := by decide +kernel
theorem dX13_owed_87 : decode cX13_owed 87 = .ok (.getfield 114, 3) := by decide +kernel
theorem dX13_owed_90 : decode cX13_owed 90 = .ok (.iload_n 3, 1) := by decide +kernel
theorem dX13_owed_91 : decode cX13_owed 91 = .ok (.iaload, 1) := by decide +kernel
theorem dX13_owed_92 : decode cX13_owed 92 = .ok (.iload_n 2, 1) := by decide +kernel
theorem dX13_owed_93 : decode cX13_owed 93 = .ok (.if_icmp .ne 16, 3) := by decide +kernel
theorem dX13_owed_96 : decode cX13_owed 96 = .ok (.aload_n 0, 1) := by decide +kernel
theorem dX13_owed_97 : decode cX13_owed 97 = .ok (.getfield 108, 3) := by decide +kernel
theorem dX13_owed_100 : decode cX13_owed 100 = .ok (.iload_n 3, 1) := by decide +kernel
theorem dX13_owed_101 : decode cX13_owed 101 = .ok (.baload, 1) := by decide +kernel
theorem dX13_owed_102 : decode cX13_owed 102 = .ok (.ifCond .eq 7, 3) := by decide +kernel
theorem dX13_owed_105 : decode cX13_owed 105 = .ok (.iconst 1, 1) := by decide +kernel
theorem dX13_owed_106 : decode cX13_owed 106 = .ok (.goto 4, 3) := by decide +kernel
theorem dX13_owed_109 : decode cX13_owed 109 = .ok (.iconst 0, 1) := by decide +kernel
theorem dX13_owed_110 : decode cX13_owed 110 = .ok (.iadd, 1) := by decide +kernel
theorem dX13_owed_111 : decode cX13_owed 111 = .ok (.iastore, 1) := by decide +kernel
theorem dX13_owed_112 : decode cX13_owed 112 = .ok (.iinc 3 1, 3) := by decide +kernel
theorem dX13_owed_115 : decode cX13_owed 115 = .ok (.goto (-45), 3) := by decide +kernel
theorem dX13_owed_118 : decode cX13_owed 118 = .ok (.aload_n 0, 1) := by decide +kernel
theorem dX13_owed_119 : decode cX13_owed 119 = .ok (.getfield 195, 3) := by decide +kernel
theorem dX13_owed_122 : decode cX13_owed 122 = .ok (.iconst 1, 1) := by decide +kernel
theorem dX13_owed_123 : decode cX13_owed 123 = .ok (.aload_n 0, 1) := by decide +kernel
theorem dX13_owed_124 : decode cX13_owed 124 = .ok (.getfield 81, 3) := by decide +kernel
theorem dX13_owed_127 : decode cX13_owed 127 = .ok (.iload_n 2, 1) := by decide +kernel
theorem dX13_owed_128 : decode cX13_owed 128 = .ok (.iaload, 1) := by decide +kernel
theorem dX13_owed_129 : decode cX13_owed 129 = .ok (.iastore, 1) := by decide +kernel
theorem dX13_owed_130 : decode cX13_owed 130 = .ok (.aload_n 0, 1) := by decide +kernel
theorem dX13_owed_131 : decode cX13_owed 131 = .ok (.getfield 195, 3) := by decide +kernel
theorem dX13_owed_134 : decode cX13_owed 134 = .ok (.bipush 7, 2) := by decide +kernel
theorem dX13_owed_136 : decode cX13_owed 136 = .ok (.iload_n 2, 1) := by decide +kernel
theorem dX13_owed_137 : decode cX13_owed 137 = .ok (.iastore, 1) := by decide +kernel
theorem dX13_owed_138 : decode cX13_owed 138 = .ok (.aload_n 0, 1) := by decide +kernel
theorem dX13_owed_139 : decode cX13_owed 139 = .ok (.iconst 4, 1) := by decide +kernel
theorem dX13_owed_140 : decode cX13_owed 140 = .ok (.iload_n 2, 1) := by decide +kernel
theorem dX13_owed_141 : decode cX13_owed 141 = .ok (.aload_n 0, 1) := by decide +kernel
theorem dX13_owed_142 : decode cX13_owed 142 = .ok (.getfield 72, 3) := by decide +kernel
theorem dX13_owed_145 : decode cX13_owed 145 = .ok (.iload_n 2, 1) := by decide +kernel
theorem dX13_owed_146 : decode cX13_owed 146 = .ok (.iaload, 1) := by decide +kernel
theorem dX13_owed_147 : decode cX13_owed 147 = .ok (.invokevirtual 404, 3) := by decide +kernel
theorem dX13_owed_150 : decode cX13_owed 150 = .ok (.istore_n 3, 1) := by decide +kernel
theorem dX13_owed_151 : decode cX13_owed 151 = .ok (.iload_n 3, 1) := by decide +kernel
theorem dX13_owed_152 : decode cX13_owed 152 = .ok (.ifCond .ge 7, 3) := by decide +kernel
theorem dX13_owed_155 : decode cX13_owed 155 = .ok (.iconst 0, 1) := by decide +kernel
theorem dX13_owed_156 : decode cX13_owed 156 = .ok (.goto 23, 3) := by decide +kernel
theorem dX13_owed_159 : decode cX13_owed 159 = .ok (.iload_n 3, 1) := by decide +kernel
theorem dX13_owed_160 : decode cX13_owed 160 = .ok (.aload_n 0, 1) := by decide +kernel
theorem dX13_owed_161 : decode cX13_owed 161 = .ok (.getfield 189, 3) := by decide +kernel
theorem dX13_owed_164 : decode cX13_owed 164 = .ok (.iload_n 1, 1) := by decide +kernel
theorem dX13_owed_165 : decode cX13_owed 165 = .ok (.iaload, 1) := by decide +kernel
theorem dX13_owed_166 : decode cX13_owed 166 = .ok (.if_icmp .le 12, 3) := by decide +kernel
theorem dX13_owed_169 : decode cX13_owed 169 = .ok (.aload_n 0, 1) := by decide +kernel
theorem dX13_owed_170 : decode cX13_owed 170 = .ok (.getfield 189, 3) := by decide +kernel
theorem dX13_owed_173 : decode cX13_owed 173 = .ok (.iload_n 1, 1) := by decide +kernel
theorem dX13_owed_174 : decode cX13_owed 174 = .ok (.iaload, 1) := by decide +kernel
theorem dX13_owed_175 : decode cX13_owed 175 = .ok (.goto 4, 3) := by decide +kernel
theorem dX13_owed_178 : decode cX13_owed 178 = .ok (.iload_n 3, 1) := by decide +kernel
theorem dX13_owed_179 : decode cX13_owed 179 = .ok (.ireturn, 1) := by decide +kernel
theorem dX13_bounded_0 : decode cX13_bounded 0 = .ok (.iload_n 0, 1) := by decide +kernel
theorem dX13_bounded_1 : decode cX13_bounded 1 = .ok (.iconst 1, 1) := by decide +kernel
theorem dX13_bounded_2 : decode cX13_bounded 2 = .ok (.if_icmp .ge 7, 3) := by decide +kernel
theorem dX13_bounded_5 : decode cX13_bounded 5 = .ok (.iconst 1, 1) := by decide +kernel
theorem dX13_bounded_6 : decode cX13_bounded 6 = .ok (.goto 17, 3) := by decide +kernel
theorem dX13_bounded_9 : decode cX13_bounded 9 = .ok (.iload_n 0, 1) := by decide +kernel
theorem dX13_bounded_10 : decode cX13_bounded 10 = .ok (.sipush 400, 3) := by decide +kernel
theorem dX13_bounded_13 : decode cX13_bounded 13 = .ok (.if_icmp .le 9, 3) := by decide +kernel
theorem dX13_bounded_16 : decode cX13_bounded 16 = .ok (.sipush 400, 3) := by decide +kernel
theorem dX13_bounded_19 : decode cX13_bounded 19 = .ok (.goto 4, 3) := by decide +kernel
theorem dX13_bounded_22 : decode cX13_bounded 22 = .ok (.iload_n 0, 1) := by decide +kernel
theorem dX13_bounded_23 : decode cX13_bounded 23 = .ok (.ireturn, 1) := by decide +kernel
theorem dX13_bringsTo_0 : decode cX13_bringsTo 0 = .ok (.iload_n 1, 1) := by decide +kernel
theorem dX13_bringsTo_1 : decode cX13_bringsTo 1 = .ok (.invokestatic 377, 3) := by decide +kernel
theorem dX13_bringsTo_4 : decode cX13_bringsTo 4 = .ok (.ifCond .eq 23, 3) := by decide +kernel
theorem dX13_bringsTo_7 : decode cX13_bringsTo 7 = .ok (.aload_n 0, 1) := by decide +kernel
theorem dX13_bringsTo_8 : decode cX13_bringsTo 8 = .ok (.getfield 68, 3) := by decide +kernel
theorem dX13_bringsTo_11 : decode cX13_bringsTo 11 = .ok (.iload_n 1, 1) := by decide +kernel
theorem dX13_bringsTo_12 : decode cX13_bringsTo 12 = .ok (.baload, 1) := by decide +kernel
theorem dX13_bringsTo_13 : decode cX13_bringsTo 13 = .ok (.ifCond .ne 14, 3) := by decide +kernel
theorem dX13_bringsTo_16 : decode cX13_bringsTo 16 = .ok (.iload_n 2, 1) := by decide +kernel
theorem dX13_bringsTo_17 : decode cX13_bringsTo 17 = .ok (.iconst 1, 1) := by decide +kernel
theorem dX13_bringsTo_18 : decode cX13_bringsTo 18 = .ok (.sipush 400, 3) := by decide +kernel
theorem dX13_bringsTo_21 : decode cX13_bringsTo 21 = .ok (.invokestatic 256, 3) := by decide +kernel
theorem dX13_bringsTo_24 : decode cX13_bringsTo 24 = .ok (.ifCond .ne 5, 3) := by decide +kernel
theorem dX13_bringsTo_27 : decode cX13_bringsTo 27 = .ok (.iconst (-1), 1) := by decide +kernel
theorem dX13_bringsTo_28 : decode cX13_bringsTo 28 = .ok (.ireturn, 1) := by decide +kernel
theorem dX13_bringsTo_29 : decode cX13_bringsTo 29 = .ok (.aload_n 0, 1) := by decide +kernel
theorem dX13_bringsTo_30 : decode cX13_bringsTo 30 = .ok (.iload_n 1, 1) := by decide +kernel
theorem dX13_bringsTo_31 : decode cX13_bringsTo 31 = .ok (.invokevirtual 442, 3) := by decide +kernel
theorem dX13_bringsTo_34 : decode cX13_bringsTo 34 = .ok (.istore_n 3, 1) := by decide +kernel
theorem dX13_bringsTo_35 : decode cX13_bringsTo 35 = .ok (.iconst 0, 1) := by decide +kernel
theorem dX13_bringsTo_36 : decode cX13_bringsTo 36 = .ok (.istore 4, 2) := by decide +kernel
theorem dX13_bringsTo_38 : decode cX13_bringsTo 38 = .ok (.iconst 0, 1) := by decide +kernel
theorem dX13_bringsTo_39 : decode cX13_bringsTo 39 = .ok (.istore 5, 2) := by decide +kernel
theorem dX13_bringsTo_41 : decode cX13_bringsTo 41 = .ok (.iconst 0, 1) := by decide +kernel
theorem dX13_bringsTo_42 : decode cX13_bringsTo 42 = .ok (.istore 6, 2) := by decide +kernel
theorem dX13_bringsTo_44 : decode cX13_bringsTo 44 = .ok (.aload_n 0, 1) := by decide +kernel
theorem dX13_bringsTo_45 : decode cX13_bringsTo 45 = .ok (.iconst 0, 1) := by decide +kernel
theorem dX13_bringsTo_46 : decode cX13_bringsTo 46 = .ok (.putfield 515, 3) := by decide +kernel
theorem dX13_bringsTo_49 : decode cX13_bringsTo 49 = .ok (.iconst 0, 1) := by decide +kernel
theorem dX13_bringsTo_50 : decode cX13_bringsTo 50 = .ok (.istore 7, 2) := by decide +kernel
theorem dX13_bringsTo_52 : decode cX13_bringsTo 52 = .ok (.iload 7, 2) := by decide +kernel
theorem dX13_bringsTo_54 : decode cX13_bringsTo 54 = .ok (.iload_n 3, 1) := by decide +kernel
theorem dX13_bringsTo_55 : decode cX13_bringsTo 55 = .ok (.if_icmp .ge 289, 3) := by decide +kernel
theorem dX13_bringsTo_58 : decode cX13_bringsTo 58 = .ok (.aload_n 0, 1) := by decide +kernel
theorem dX13_bringsTo_59 : decode cX13_bringsTo 59 = .ok (.getfield 210, 3) := by decide +kernel
theorem dX13_bringsTo_62 : decode cX13_bringsTo 62 = .ok (.iload 7, 2) := by decide +kernel
theorem dX13_bringsTo_64 : decode cX13_bringsTo 64 = .ok (.iaload, 1) := by decide +kernel
theorem dX13_bringsTo_65 : decode cX13_bringsTo 65 = .ok (.istore 8, 2) := by decide +kernel
theorem dX13_bringsTo_67 : decode cX13_bringsTo 67 = .ok (.aload_n 0, 1) := by decide +kernel
theorem dX13_bringsTo_68 : decode cX13_bringsTo 68 = .ok (.getfield 108, 3) := by decide +kernel
theorem dX13_bringsTo_71 : decode cX13_bringsTo 71 = .ok (.iload 8, 2) := by decide +kernel
theorem dX13_bringsTo_73 : decode cX13_bringsTo 73 = .ok (.baload, 1) := by decide +kernel
theorem dX13_bringsTo_74 : decode cX13_bringsTo 74 = .ok (.ifCond .eq 6, 3) := by decide +kernel
theorem dX13_bringsTo_77 : decode cX13_bringsTo 77 = .ok (.goto 261, 3) := by decide +kernel
theorem dX13_bringsTo_80 : decode cX13_bringsTo 80 = .ok (.aload_n 0, 1) := by decide +kernel
theorem dX13_bringsTo_81 : decode cX13_bringsTo 81 = .ok (.getfield 90, 3) := by decide +kernel
theorem dX13_bringsTo_84 : decode cX13_bringsTo 84 = .ok (.iload 8, 2) := by decide +kernel
theorem dX13_bringsTo_86 : decode cX13_bringsTo 86 = .ok (.iaload, 1) := by decide +kernel
theorem dX13_bringsTo_87 : decode cX13_bringsTo 87 = .ok (.ifCond .eq 46, 3) := by decide +kernel
theorem dX13_bringsTo_90 : decode cX13_bringsTo 90 = .ok (.aload_n 0, 1) := by decide +kernel
theorem dX13_bringsTo_91 : decode cX13_bringsTo 91 = .ok (.getfield 90, 3) := by decide +kernel
theorem dX13_bringsTo_94 : decode cX13_bringsTo 94 = .ok (.iload 8, 2) := by decide +kernel
theorem dX13_bringsTo_96 : decode cX13_bringsTo 96 = .ok (.iaload, 1) := by decide +kernel
theorem dX13_bringsTo_97 : decode cX13_bringsTo 97 = .ok (.iconst 1, 1) := by decide +kernel
theorem dX13_bringsTo_98 : decode cX13_bringsTo 98 = .ok (.if_icmp .ne 7, 3) := by decide +kernel
theorem dX13_bringsTo_101 : decode cX13_bringsTo 101 = .ok (.iconst 1, 1) := by decide +kernel
theorem dX13_bringsTo_102 : decode cX13_bringsTo 102 = .ok (.goto 5, 3) := by decide +kernel
theorem dX13_bringsTo_105 : decode cX13_bringsTo 105 = .ok (.bipush 10, 2) := by decide +kernel
theorem dX13_bringsTo_107 : decode cX13_bringsTo 107 = .ok (.istore 9, 2) := by decide +kernel
theorem dX13_bringsTo_109 : decode cX13_bringsTo 109 = .ok (.iload 4, 2) := by decide +kernel
theorem dX13_bringsTo_111 : decode cX13_bringsTo 111 = .ok (.iload 9, 2) := by decide +kernel
theorem dX13_bringsTo_113 : decode cX13_bringsTo 113 = .ok (.iadd, 1) := by decide +kernel
theorem dX13_bringsTo_114 : decode cX13_bringsTo 114 = .ok (.istore 4, 2) := by decide +kernel
theorem dX13_bringsTo_116 : decode cX13_bringsTo 116 = .ok (.iload 5, 2) := by decide +kernel
theorem dX13_bringsTo_118 : decode cX13_bringsTo 118 = .ok (.iload 9, 2) := by decide +kernel
theorem dX13_bringsTo_120 : decode cX13_bringsTo 120 = .ok (.iadd, 1) := by decide +kernel
theorem dX13_bringsTo_121 : decode cX13_bringsTo 121 = .ok (.istore 5, 2) := by decide +kernel
theorem dX13_bringsTo_123 : decode cX13_bringsTo 123 = .ok (.iload 6, 2) := by decide +kernel
theorem dX13_bringsTo_125 : decode cX13_bringsTo 125 = .ok (.iload 9, 2) := by decide +kernel
theorem dX13_bringsTo_127 : decode cX13_bringsTo 127 = .ok (.iadd, 1) := by decide +kernel
theorem dX13_bringsTo_128 : decode cX13_bringsTo 128 = .ok (.istore 6, 2) := by decide +kernel
theorem dX13_bringsTo_130 : decode cX13_bringsTo 130 = .ok (.goto 208, 3) := by decide +kernel
theorem dX13_bringsTo_133 : decode cX13_bringsTo 133 = .ok (.aload_n 0, 1) := by decide +kernel
theorem dX13_bringsTo_134 : decode cX13_bringsTo 134 = .ok (.iload 8, 2) := by decide +kernel
theorem dX13_bringsTo_136 : decode cX13_bringsTo 136 = .ok (.aload_n 0, 1) := by decide +kernel
theorem dX13_bringsTo_137 : decode cX13_bringsTo 137 = .ok (.getfield 105, 3) := by decide +kernel
theorem dX13_bringsTo_140 : decode cX13_bringsTo 140 = .ok (.iload 8, 2) := by decide +kernel
theorem dX13_bringsTo_142 : decode cX13_bringsTo 142 = .ok (.iaload, 1) := by decide +kernel
theorem dX13_bringsTo_143 : decode cX13_bringsTo 143 = .ok (.invokevirtual 470, 3) := by decide +kernel
theorem dX13_bringsTo_146 : decode cX13_bringsTo 146 = .ok (.aload_n 0, 1) := by decide +kernel
theorem dX13_bringsTo_147 : decode cX13_bringsTo 147 = .ok (.getfield 216, 3) := by decide +kernel
theorem dX13_bringsTo_150 : decode cX13_bringsTo 150 = .ok (.iload 8, 2) := by decide +kernel
theorem dX13_bringsTo_152 : decode cX13_bringsTo 152 = .ok (.aload_n 0, 1) := by decide +kernel
theorem dX13_bringsTo_153 : decode cX13_bringsTo 153 = .ok (.bipush 8, 2) := by decide +kernel
theorem dX13_bringsTo_155 : decode cX13_bringsTo 155 = .ok (.aload_n 0, 1) := by decide +kernel
theorem dX13_bringsTo_156 : decode cX13_bringsTo 156 = .ok (.getfield 93, 3) := by decide +kernel
theorem dX13_bringsTo_159 : decode cX13_bringsTo 159 = .ok (.iload 8, 2) := by decide +kernel
theorem dX13_bringsTo_161 : decode cX13_bringsTo 161 = .ok (.iaload, 1) := by decide +kernel
theorem dX13_bringsTo_162 : decode cX13_bringsTo 162 = .ok (.iadd, 1) := by decide +kernel
theorem dX13_bringsTo_163 : decode cX13_bringsTo 163 = .ok (.iload_n 1, 1) := by decide +kernel
theorem dX13_bringsTo_164 : decode cX13_bringsTo 164 = .ok (.aload_n 0, 1) := by decide +kernel
theorem dX13_bringsTo_165 : decode cX13_bringsTo 165 = .ok (.getfield 383, 3) := by decide +kernel
theorem dX13_bringsTo_168 : decode cX13_bringsTo 168 = .ok (.invokevirtual 404, 3) := by decide +kernel
theorem dX13_bringsTo_171 : decode cX13_bringsTo 171 = .ok (.invokestatic 518, 3) := by decide +kernel
theorem dX13_bringsTo_174 : decode cX13_bringsTo 174 = .ok (.iastore, 1) := by decide +kernel
theorem dX13_bringsTo_175 : decode cX13_bringsTo 175 = .ok (.aload_n 0, 1) := by decide +kernel
theorem dX13_bringsTo_176 : decode cX13_bringsTo 176 = .ok (.getfield 213, 3) := by decide +kernel
theorem dX13_bringsTo_179 : decode cX13_bringsTo 179 = .ok (.iload 8, 2) := by decide +kernel
theorem dX13_bringsTo_181 : decode cX13_bringsTo 181 = .ok (.aload_n 0, 1) := by decide +kernel
theorem dX13_bringsTo_182 : decode cX13_bringsTo 182 = .ok (.iconst 5, 1) := by decide +kernel
theorem dX13_bringsTo_183 : decode cX13_bringsTo 183 = .ok (.aload_n 0, 1) := by decide +kernel
theorem dX13_bringsTo_184 : decode cX13_bringsTo 184 = .ok (.getfield 93, 3) := by decide +kernel
theorem dX13_bringsTo_187 : decode cX13_bringsTo 187 = .ok (.iload 8, 2) := by decide +kernel
theorem dX13_bringsTo_189 : decode cX13_bringsTo 189 = .ok (.iaload, 1) := by decide +kernel
theorem dX13_bringsTo_190 : decode cX13_bringsTo 190 = .ok (.iadd, 1) := by decide +kernel
theorem dX13_bringsTo_191 : decode cX13_bringsTo 191 = .ok (.iload_n 1, 1) := by decide +kernel
theorem dX13_bringsTo_192 : decode cX13_bringsTo 192 = .ok (.aload_n 0, 1) := by decide +kernel
theorem dX13_bringsTo_193 : decode cX13_bringsTo 193 = .ok (.getfield 383, 3) := by decide +kernel
theorem dX13_bringsTo_196 : decode cX13_bringsTo 196 = .ok (.invokevirtual 404, 3) := by decide +kernel
theorem dX13_bringsTo_199 : decode cX13_bringsTo 199 = .ok (.invokestatic 518, 3) := by decide +kernel
theorem dX13_bringsTo_202 : decode cX13_bringsTo 202 = .ok (.iastore, 1) := by decide +kernel
theorem dX13_bringsTo_203 : decode cX13_bringsTo 203 = .ok (.aload_n 0, 1) := by decide +kernel
theorem dX13_bringsTo_204 : decode cX13_bringsTo 204 = .ok (.getfield 213, 3) := by decide +kernel
theorem dX13_bringsTo_207 : decode cX13_bringsTo 207 = .ok (.iload 8, 2) := by decide +kernel
theorem dX13_bringsTo_209 : decode cX13_bringsTo 209 = .ok (.iaload, 1) := by decide +kernel
theorem dX13_bringsTo_210 : decode cX13_bringsTo 210 = .ok (.aload_n 0, 1) := by decide +kernel
theorem dX13_bringsTo_211 : decode cX13_bringsTo 211 = .ok (.getfield 216, 3) := by decide +kernel
theorem dX13_bringsTo_214 : decode cX13_bringsTo 214 = .ok (.iload 8, 2) := by decide +kernel
theorem dX13_bringsTo_216 : decode cX13_bringsTo 216 = .ok (.iaload, 1) := by decide +kernel
theorem dX13_bringsTo_217 : decode cX13_bringsTo 217 = .ok (.if_icmp .le 17, 3) := by decide +kernel
theorem dX13_bringsTo_220 : decode cX13_bringsTo 220 = .ok (.aload_n 0, 1) := by decide +kernel
theorem dX13_bringsTo_221 : decode cX13_bringsTo 221 = .ok (.getfield 213, 3) := by decide +kernel
theorem dX13_bringsTo_224 : decode cX13_bringsTo 224 = .ok (.iload 8, 2) := by decide +kernel
theorem dX13_bringsTo_226 : decode cX13_bringsTo 226 = .ok (.aload_n 0, 1) := by decide +kernel
theorem dX13_bringsTo_227 : decode cX13_bringsTo 227 = .ok (.getfield 216, 3) := by decide +kernel
theorem dX13_bringsTo_230 : decode cX13_bringsTo 230 = .ok (.iload 8, 2) := by decide +kernel
theorem dX13_bringsTo_232 : decode cX13_bringsTo 232 = .ok (.iaload, 1) := by decide +kernel
theorem dX13_bringsTo_233 : decode cX13_bringsTo 233 = .ok (.iastore, 1) := by decide +kernel
theorem dX13_bringsTo_234 : decode cX13_bringsTo 234 = .ok (.aload_n 0, 1) := by decide +kernel
theorem dX13_bringsTo_235 : decode cX13_bringsTo 235 = .ok (.getfield 219, 3) := by decide +kernel
theorem dX13_bringsTo_238 : decode cX13_bringsTo 238 = .ok (.iload 8, 2) := by decide +kernel
theorem dX13_bringsTo_240 : decode cX13_bringsTo 240 = .ok (.aload_n 0, 1) := by decide +kernel
theorem dX13_bringsTo_241 : decode cX13_bringsTo 241 = .ok (.getfield 99, 3) := by decide +kernel
theorem dX13_bringsTo_244 : decode cX13_bringsTo 244 = .ok (.iload 8, 2) := by decide +kernel
theorem dX13_bringsTo_246 : decode cX13_bringsTo 246 = .ok (.iaload, 1) := by decide +kernel
theorem dX13_bringsTo_247 : decode cX13_bringsTo 247 = .ok (.aload_n 0, 1) := by decide +kernel
theorem dX13_bringsTo_248 : decode cX13_bringsTo 248 = .ok (.getfield 213, 3) := by decide +kernel
theorem dX13_bringsTo_251 : decode cX13_bringsTo 251 = .ok (.iload 8, 2) := by decide +kernel
theorem dX13_bringsTo_253 : decode cX13_bringsTo 253 = .ok (.iaload, 1) := by decide +kernel
theorem dX13_bringsTo_254 : decode cX13_bringsTo 254 = .ok (.if_icmp .ge 13, 3) := by decide +kernel
theorem dX13_bringsTo_257 : decode cX13_bringsTo 257 = .ok (.aload_n 0, 1) := by decide +kernel
theorem dX13_bringsTo_258 : decode cX13_bringsTo 258 = .ok (.getfield 213, 3) := by decide +kernel
theorem dX13_bringsTo_261 : decode cX13_bringsTo 261 = .ok (.iload 8, 2) := by decide +kernel
theorem dX13_bringsTo_263 : decode cX13_bringsTo 263 = .ok (.iaload, 1) := by decide +kernel
theorem dX13_bringsTo_264 : decode cX13_bringsTo 264 = .ok (.goto 37, 3) := by decide +kernel
theorem dX13_bringsTo_267 : decode cX13_bringsTo 267 = .ok (.aload_n 0, 1) := by decide +kernel
theorem dX13_bringsTo_268 : decode cX13_bringsTo 268 = .ok (.getfield 99, 3) := by decide +kernel
theorem dX13_bringsTo_271 : decode cX13_bringsTo 271 = .ok (.iload 8, 2) := by decide +kernel
theorem dX13_bringsTo_273 : decode cX13_bringsTo 273 = .ok (.iaload, 1) := by decide +kernel
theorem dX13_bringsTo_274 : decode cX13_bringsTo 274 = .ok (.aload_n 0, 1) := by decide +kernel
theorem dX13_bringsTo_275 : decode cX13_bringsTo 275 = .ok (.getfield 216, 3) := by decide +kernel
theorem dX13_bringsTo_278 : decode cX13_bringsTo 278 = .ok (.iload 8, 2) := by decide +kernel
theorem dX13_bringsTo_280 : decode cX13_bringsTo 280 = .ok (.iaload, 1) := by decide +kernel
theorem dX13_bringsTo_281 : decode cX13_bringsTo 281 = .ok (.if_icmp .le 13, 3) := by decide +kernel
theorem dX13_bringsTo_284 : decode cX13_bringsTo 284 = .ok (.aload_n 0, 1) := by decide +kernel
theorem dX13_bringsTo_285 : decode cX13_bringsTo 285 = .ok (.getfield 216, 3) := by decide +kernel
theorem dX13_bringsTo_288 : decode cX13_bringsTo 288 = .ok (.iload 8, 2) := by decide +kernel
theorem dX13_bringsTo_290 : decode cX13_bringsTo 290 = .ok (.iaload, 1) := by decide +kernel
theorem dX13_bringsTo_291 : decode cX13_bringsTo 291 = .ok (.goto 10, 3) := by decide +kernel
theorem dX13_bringsTo_294 : decode cX13_bringsTo 294 = .ok (.aload_n 0, 1) := by decide +kernel
theorem dX13_bringsTo_295 : decode cX13_bringsTo 295 = .ok (.getfield 99, 3) := by decide +kernel
theorem dX13_bringsTo_298 : decode cX13_bringsTo 298 = .ok (.iload 8, 2) := by decide +kernel
theorem dX13_bringsTo_300 : decode cX13_bringsTo 300 = .ok (.iaload, 1) := by decide +kernel
theorem dX13_bringsTo_301 : decode cX13_bringsTo 301 = .ok (.iastore, 1) := by decide +kernel
theorem dX13_bringsTo_302 : decode cX13_bringsTo 302 = .ok (.iload 4, 2) := by decide +kernel
theorem dX13_bringsTo_304 : decode cX13_bringsTo 304 = .ok (.aload_n 0, 1) := by decide +kernel
theorem dX13_bringsTo_305 : decode cX13_bringsTo 305 = .ok (.getfield 219, 3) := by decide +kernel
theorem dX13_bringsTo_308 : decode cX13_bringsTo 308 = .ok (.iload 8, 2) := by decide +kernel
theorem dX13_bringsTo_310 : decode cX13_bringsTo 310 = .ok (.iaload, 1) := by decide +kernel
theorem dX13_bringsTo_311 : decode cX13_bringsTo 311 = .ok (.iadd, 1) := by decide +kernel
theorem dX13_bringsTo_312 : decode cX13_bringsTo 312 = .ok (.istore 4, 2) := by decide +kernel
theorem dX13_bringsTo_314 : decode cX13_bringsTo 314 = .ok (.iload 5, 2) := by decide +kernel
theorem dX13_bringsTo_316 : decode cX13_bringsTo 316 = .ok (.aload_n 0, 1) := by decide +kernel
theorem dX13_bringsTo_317 : decode cX13_bringsTo 317 = .ok (.getfield 213, 3) := by decide +kernel
theorem dX13_bringsTo_320 : decode cX13_bringsTo 320 = .ok (.iload 8, 2) := by decide +kernel
theorem dX13_bringsTo_322 : decode cX13_bringsTo 322 = .ok (.iaload, 1) := by decide +kernel
theorem dX13_bringsTo_323 : decode cX13_bringsTo 323 = .ok (.iadd, 1) := by decide +kernel
theorem dX13_bringsTo_324 : decode cX13_bringsTo 324 = .ok (.istore 5, 2) := by decide +kernel
theorem dX13_bringsTo_326 : decode cX13_bringsTo 326 = .ok (.iload 6, 2) := by decide +kernel
theorem dX13_bringsTo_328 : decode cX13_bringsTo 328 = .ok (.aload_n 0, 1) := by decide +kernel
theorem dX13_bringsTo_329 : decode cX13_bringsTo 329 = .ok (.getfield 216, 3) := by decide +kernel
theorem dX13_bringsTo_332 : decode cX13_bringsTo 332 = .ok (.iload 8, 2) := by decide +kernel
theorem dX13_bringsTo_334 : decode cX13_bringsTo 334 = .ok (.iaload, 1) := by decide +kernel
theorem dX13_bringsTo_335 : decode cX13_bringsTo 335 = .ok (.iadd, 1) := by decide +kernel
theorem dX13_bringsTo_336 : decode cX13_bringsTo 336 = .ok (.istore 6, 2) := by decide +kernel
theorem dX13_bringsTo_338 : decode cX13_bringsTo 338 = .ok (.iinc 7 1, 3) := by decide +kernel
theorem dX13_bringsTo_341 : decode cX13_bringsTo 341 = .ok (.goto (-289), 3) := by decide +kernel
theorem dX13_bringsTo_344 : decode cX13_bringsTo 344 = .ok (.iconst (-1), 1) := by decide +kernel
theorem dX13_bringsTo_345 : decode cX13_bringsTo 345 = .ok (.istore 7, 2) := by decide +kernel
theorem dX13_bringsTo_347 : decode cX13_bringsTo 347 = .ok (.iconst 0, 1) := by decide +kernel
theorem dX13_bringsTo_348 : decode cX13_bringsTo 348 = .ok (.istore 8, 2) := by decide +kernel
theorem dX13_bringsTo_350 : decode cX13_bringsTo 350 = .ok (.iload 8, 2) := by decide +kernel
theorem dX13_bringsTo_352 : decode cX13_bringsTo 352 = .ok (.iload 6, 2) := by decide +kernel
theorem dX13_bringsTo_354 : decode cX13_bringsTo 354 = .ok (.if_icmp .gt 82, 3) := by decide +kernel
theorem dX13_bringsTo_357 : decode cX13_bringsTo 357 = .ok (.iload 8, 2) := by decide +kernel
theorem dX13_bringsTo_359 : decode cX13_bringsTo 359 = .ok (.iload 5, 2) := by decide +kernel
theorem dX13_bringsTo_361 : decode cX13_bringsTo 361 = .ok (.if_icmp .ge 6, 3) := by decide +kernel
theorem dX13_bringsTo_364 : decode cX13_bringsTo 364 = .ok (.goto 63, 3) := by decide +kernel
theorem dX13_bringsTo_367 : decode cX13_bringsTo 367 = .ok (.iload 8, 2) := by decide +kernel
theorem dX13_bringsTo_369 : decode cX13_bringsTo 369 = .ok (.iload 4, 2) := by decide +kernel
theorem dX13_bringsTo_371 : decode cX13_bringsTo 371 = .ok (.if_icmp .ge 11, 3) := by decide +kernel
theorem dX13_bringsTo_374 : decode cX13_bringsTo 374 = .ok (.iload 4, 2) := by decide +kernel
theorem dX13_bringsTo_376 : decode cX13_bringsTo 376 = .ok (.iload 8, 2) := by decide +kernel
theorem dX13_bringsTo_378 : decode cX13_bringsTo 378 = .ok (.isub, 1) := by decide +kernel
theorem dX13_bringsTo_379 : decode cX13_bringsTo 379 = .ok (.goto 8, 3) := by decide +kernel
theorem dX13_bringsTo_382 : decode cX13_bringsTo 382 = .ok (.iload 8, 2) := by decide +kernel
theorem dX13_bringsTo_384 : decode cX13_bringsTo 384 = .ok (.iload 4, 2) := by decide +kernel
theorem dX13_bringsTo_386 : decode cX13_bringsTo 386 = .ok (.isub, 1) := by decide +kernel
theorem dX13_bringsTo_387 : decode cX13_bringsTo 387 = .ok (.istore 9, 2) := by decide +kernel
theorem dX13_bringsTo_389 : decode cX13_bringsTo 389 = .ok (.iload 7, 2) := by decide +kernel
theorem dX13_bringsTo_391 : decode cX13_bringsTo 391 = .ok (.iconst (-1), 1) := by decide +kernel
theorem dX13_bringsTo_392 : decode cX13_bringsTo 392 = .ok (.if_icmp .eq 31, 3) := by decide +kernel
theorem dX13_bringsTo_395 : decode cX13_bringsTo 395 = .ok (.iload 9, 2) := by decide +kernel
theorem dX13_bringsTo_397 : decode cX13_bringsTo 397 = .ok (.iload 7, 2) := by decide +kernel
theorem dX13_bringsTo_399 : decode cX13_bringsTo 399 = .ok (.iload 4, 2) := by decide +kernel
theorem dX13_bringsTo_401 : decode cX13_bringsTo 401 = .ok (.if_icmp .ge 11, 3) := by decide +kernel
theorem dX13_bringsTo_404 : decode cX13_bringsTo 404 = .ok (.iload 4, 2) := by decide +kernel
theorem dX13_bringsTo_406 : decode cX13_bringsTo 406 = .ok (.iload 7, 2) := by decide +kernel
theorem dX13_bringsTo_408 : decode cX13_bringsTo 408 = .ok (.isub, 1) := by decide +kernel
theorem dX13_bringsTo_409 : decode cX13_bringsTo 409 = .ok (.goto 8, 3) := by decide +kernel
theorem dX13_bringsTo_412 : decode cX13_bringsTo 412 = .ok (.iload 7, 2) := by decide +kernel
theorem dX13_bringsTo_414 : decode cX13_bringsTo 414 = .ok (.iload 4, 2) := by decide +kernel
theorem dX13_bringsTo_416 : decode cX13_bringsTo 416 = .ok (.isub, 1) := by decide +kernel
theorem dX13_bringsTo_417 : decode cX13_bringsTo 417 = .ok (.if_icmp .lt 6, 3) := by decide +kernel
theorem dX13_bringsTo_420 : decode cX13_bringsTo 420 = .ok (.goto 7, 3) := by decide +kernel
theorem dX13_bringsTo_423 : decode cX13_bringsTo 423 = .ok (.iload 8, 2) := by decide +kernel
theorem dX13_bringsTo_425 : decode cX13_bringsTo 425 = .ok (.istore 7, 2) := by decide +kernel
theorem dX13_bringsTo_427 : decode cX13_bringsTo 427 = .ok (.iload 8, 2) := by decide +kernel
theorem dX13_bringsTo_429 : decode cX13_bringsTo 429 = .ok (.iload_n 2, 1) := by decide +kernel
theorem dX13_bringsTo_430 : decode cX13_bringsTo 430 = .ok (.iadd, 1) := by decide +kernel
theorem dX13_bringsTo_431 : decode cX13_bringsTo 431 = .ok (.istore 8, 2) := by decide +kernel
theorem dX13_bringsTo_433 : decode cX13_bringsTo 433 = .ok (.goto (-83), 3) := by decide +kernel
theorem dX13_bringsTo_436 : decode cX13_bringsTo 436 = .ok (.iload 7, 2) := by decide +kernel
theorem dX13_bringsTo_438 : decode cX13_bringsTo 438 = .ok (.iconst (-1), 1) := by decide +kernel
theorem dX13_bringsTo_439 : decode cX13_bringsTo 439 = .ok (.if_icmp .ne 5, 3) := by decide +kernel
theorem dX13_bringsTo_442 : decode cX13_bringsTo 442 = .ok (.iconst (-1), 1) := by decide +kernel
theorem dX13_bringsTo_443 : decode cX13_bringsTo 443 = .ok (.ireturn, 1) := by decide +kernel
theorem dX13_bringsTo_444 : decode cX13_bringsTo 444 = .ok (.iload 7, 2) := by decide +kernel
theorem dX13_bringsTo_446 : decode cX13_bringsTo 446 = .ok (.iload 4, 2) := by decide +kernel
theorem dX13_bringsTo_448 : decode cX13_bringsTo 448 = .ok (.isub, 1) := by decide +kernel
theorem dX13_bringsTo_449 : decode cX13_bringsTo 449 = .ok (.istore 8, 2) := by decide +kernel
theorem dX13_bringsTo_451 : decode cX13_bringsTo 451 = .ok (.iconst 0, 1) := by decide +kernel
theorem dX13_bringsTo_452 : decode cX13_bringsTo 452 = .ok (.istore 9, 2) := by decide +kernel
theorem dX13_bringsTo_454 : decode cX13_bringsTo 454 = .ok (.iload 9, 2) := by decide +kernel
theorem dX13_bringsTo_456 : decode cX13_bringsTo 456 = .ok (.iload_n 3, 1) := by decide +kernel
theorem dX13_bringsTo_457 : decode cX13_bringsTo 457 = .ok (.if_icmp .ge 197, 3) := by decide +kernel
theorem dX13_bringsTo_460 : decode cX13_bringsTo 460 = .ok (.aload_n 0, 1) := by decide +kernel
theorem dX13_bringsTo_461 : decode cX13_bringsTo 461 = .ok (.getfield 210, 3) := by decide +kernel
theorem dX13_bringsTo_464 : decode cX13_bringsTo 464 = .ok (.iload 9, 2) := by decide +kernel
theorem dX13_bringsTo_466 : decode cX13_bringsTo 466 = .ok (.iaload, 1) := by decide +kernel
theorem dX13_bringsTo_467 : decode cX13_bringsTo 467 = .ok (.istore 10, 2) := by decide +kernel
theorem dX13_bringsTo_469 : decode cX13_bringsTo 469 = .ok (.aload_n 0, 1) := by decide +kernel
theorem dX13_bringsTo_470 : decode cX13_bringsTo 470 = .ok (.getfield 108, 3) := by decide +kernel
theorem dX13_bringsTo_473 : decode cX13_bringsTo 473 = .ok (.iload 10, 2) := by decide +kernel
theorem dX13_bringsTo_475 : decode cX13_bringsTo 475 = .ok (.baload, 1) := by decide +kernel
theorem dX13_bringsTo_476 : decode cX13_bringsTo 476 = .ok (.ifCond .ne 172, 3) := by decide +kernel
theorem dX13_bringsTo_479 : decode cX13_bringsTo 479 = .ok (.aload_n 0, 1) := by decide +kernel
theorem dX13_bringsTo_480 : decode cX13_bringsTo 480 = .ok (.getfield 90, 3) := by decide +kernel
theorem dX13_bringsTo_483 : decode cX13_bringsTo 483 = .ok (.iload 10, 2) := by decide +kernel
theorem dX13_bringsTo_485 : decode cX13_bringsTo 485 = .ok (.iaload, 1) := by decide +kernel
theorem dX13_bringsTo_486 : decode cX13_bringsTo 486 = .ok (.ifCond .eq 6, 3) := by decide +kernel
theorem dX13_bringsTo_489 : decode cX13_bringsTo 489 = .ok (.goto 159, 3) := by decide +kernel
theorem dX13_bringsTo_492 : decode cX13_bringsTo 492 = .ok (.iload 8, 2) := by decide +kernel
theorem dX13_bringsTo_494 : decode cX13_bringsTo 494 = .ok (.ifCond .le 21, 3) := by decide +kernel
theorem dX13_bringsTo_497 : decode cX13_bringsTo 497 = .ok (.aload_n 0, 1) := by decide +kernel
theorem dX13_bringsTo_498 : decode cX13_bringsTo 498 = .ok (.getfield 216, 3) := by decide +kernel
theorem dX13_bringsTo_501 : decode cX13_bringsTo 501 = .ok (.iload 10, 2) := by decide +kernel
theorem dX13_bringsTo_503 : decode cX13_bringsTo 503 = .ok (.iaload, 1) := by decide +kernel
theorem dX13_bringsTo_504 : decode cX13_bringsTo 504 = .ok (.aload_n 0, 1) := by decide +kernel
theorem dX13_bringsTo_505 : decode cX13_bringsTo 505 = .ok (.getfield 219, 3) := by decide +kernel
theorem dX13_bringsTo_508 : decode cX13_bringsTo 508 = .ok (.iload 10, 2) := by decide +kernel
theorem dX13_bringsTo_510 : decode cX13_bringsTo 510 = .ok (.iaload, 1) := by decide +kernel
theorem dX13_bringsTo_511 : decode cX13_bringsTo 511 = .ok (.isub, 1) := by decide +kernel
theorem dX13_bringsTo_512 : decode cX13_bringsTo 512 = .ok (.goto 18, 3) := by decide +kernel
theorem dX13_bringsTo_515 : decode cX13_bringsTo 515 = .ok (.aload_n 0, 1) := by decide +kernel
theorem dX13_bringsTo_516 : decode cX13_bringsTo 516 = .ok (.getfield 213, 3) := by decide +kernel
theorem dX13_bringsTo_519 : decode cX13_bringsTo 519 = .ok (.iload 10, 2) := by decide +kernel
theorem dX13_bringsTo_521 : decode cX13_bringsTo 521 = .ok (.iaload, 1) := by decide +kernel
theorem dX13_bringsTo_522 : decode cX13_bringsTo 522 = .ok (.aload_n 0, 1) := by decide +kernel
theorem dX13_bringsTo_523 : decode cX13_bringsTo 523 = .ok (.getfield 219, 3) := by decide +kernel
theorem dX13_bringsTo_526 : decode cX13_bringsTo 526 = .ok (.iload 10, 2) := by decide +kernel
theorem dX13_bringsTo_528 : decode cX13_bringsTo 528 = .ok (.iaload, 1) := by decide +kernel
theorem dX13_bringsTo_529 : decode cX13_bringsTo 529 = .ok (.isub, 1) := by decide +kernel
theorem dX13_bringsTo_530 : decode cX13_bringsTo 530 = .ok (.istore 11, 2) := by decide +kernel
theorem dX13_bringsTo_532 : decode cX13_bringsTo 532 = .ok (.iload 8, 2) := by decide +kernel
theorem dX13_bringsTo_534 : decode cX13_bringsTo 534 = .ok (.ifCond .le 20, 3) := by decide +kernel
theorem dX13_bringsTo_537 : decode cX13_bringsTo 537 = .ok (.iload 8, 2) := by decide +kernel
theorem dX13_bringsTo_539 : decode cX13_bringsTo 539 = .ok (.iload 11, 2) := by decide +kernel
theorem dX13_bringsTo_541 : decode cX13_bringsTo 541 = .ok (.if_icmp .ge 8, 3) := by decide +kernel
theorem dX13_bringsTo_544 : decode cX13_bringsTo 544 = .ok (.iload 8, 2) := by decide +kernel
theorem dX13_bringsTo_546 : decode cX13_bringsTo 546 = .ok (.goto 22, 3) := by decide +kernel
theorem dX13_bringsTo_549 : decode cX13_bringsTo 549 = .ok (.iload 11, 2) := by decide +kernel
theorem dX13_bringsTo_551 : decode cX13_bringsTo 551 = .ok (.goto 17, 3) := by decide +kernel
theorem dX13_bringsTo_554 : decode cX13_bringsTo 554 = .ok (.iload 8, 2) := by decide +kernel
theorem dX13_bringsTo_556 : decode cX13_bringsTo 556 = .ok (.iload 11, 2) := by decide +kernel
theorem dX13_bringsTo_558 : decode cX13_bringsTo 558 = .ok (.if_icmp .le 8, 3) := by decide +kernel
theorem dX13_bringsTo_561 : decode cX13_bringsTo 561 = .ok (.iload 8, 2) := by decide +kernel
theorem dX13_bringsTo_563 : decode cX13_bringsTo 563 = .ok (.goto 5, 3) := by decide +kernel
theorem dX13_bringsTo_566 : decode cX13_bringsTo 566 = .ok (.iload 11, 2) := by decide +kernel
theorem dX13_bringsTo_568 : decode cX13_bringsTo 568 = .ok (.istore 12, 2) := by decide +kernel
theorem dX13_bringsTo_570 : decode cX13_bringsTo 570 = .ok (.aload_n 0, 1) := by decide +kernel
theorem dX13_bringsTo_571 : decode cX13_bringsTo 571 = .ok (.getfield 219, 3) := by decide +kernel
theorem dX13_bringsTo_574 : decode cX13_bringsTo 574 = .ok (.iload 10, 2) := by decide +kernel
theorem dX13_bringsTo_576 : decode cX13_bringsTo 576 = .ok (.dup2, 1) := by decide +kernel
theorem dX13_bringsTo_577 : decode cX13_bringsTo 577 = .ok (.iaload, 1) := by decide +kernel
theorem dX13_bringsTo_578 : decode cX13_bringsTo 578 = .ok (.iload 12, 2) := by decide +kernel
theorem dX13_bringsTo_580 : decode cX13_bringsTo 580 = .ok (.iadd, 1) := by decide +kernel
theorem dX13_bringsTo_581 : decode cX13_bringsTo 581 = .ok (.iastore, 1) := by decide +kernel
theorem dX13_bringsTo_582 : decode cX13_bringsTo 582 = .ok (.iload 8, 2) := by decide +kernel
theorem dX13_bringsTo_584 : decode cX13_bringsTo 584 = .ok (.iload 12, 2) := by decide +kernel
theorem dX13_bringsTo_586 : decode cX13_bringsTo 586 = .ok (.isub, 1) := by decide +kernel
theorem dX13_bringsTo_587 : decode cX13_bringsTo 587 = .ok (.istore 8, 2) := by decide +kernel
theorem dX13_bringsTo_589 : decode cX13_bringsTo 589 = .ok (.aload_n 0, 1) := by decide +kernel
theorem dX13_bringsTo_590 : decode cX13_bringsTo 590 = .ok (.dup, 1) := by decide +kernel
theorem dX13_bringsTo_591 : decode cX13_bringsTo 591 = .ok (.getfield 515, 3) := by decide +kernel
theorem dX13_bringsTo_594 : decode cX13_bringsTo 594 = .ok (.aload_n 0, 1) := by decide +kernel
theorem dX13_bringsTo_595 : decode cX13_bringsTo 595 = .ok (.getfield 219, 3) := by decide +kernel
theorem dX13_bringsTo_598 : decode cX13_bringsTo 598 = .ok (.iload 10, 2) := by decide +kernel
theorem dX13_bringsTo_600 : decode cX13_bringsTo 600 = .ok (.iaload, 1) := by decide +kernel
theorem dX13_bringsTo_601 : decode cX13_bringsTo 601 = .ok (.aload_n 0, 1) := by decide +kernel
theorem dX13_bringsTo_602 : decode cX13_bringsTo 602 = .ok (.getfield 99, 3) := by decide +kernel
theorem dX13_bringsTo_605 : decode cX13_bringsTo 605 = .ok (.iload 10, 2) := by decide +kernel
theorem dX13_bringsTo_607 : decode cX13_bringsTo 607 = .ok (.iaload, 1) := by decide +kernel
theorem dX13_bringsTo_608 : decode cX13_bringsTo 608 = .ok (.if_icmp .ge 21, 3) := by decide +kernel
theorem dX13_bringsTo_611 : decode cX13_bringsTo 611 = .ok (.aload_n 0, 1) := by decide +kernel
theorem dX13_bringsTo_612 : decode cX13_bringsTo 612 = .ok (.getfield 99, 3) := by decide +kernel
theorem dX13_bringsTo_615 : decode cX13_bringsTo 615 = .ok (.iload 10, 2) := by decide +kernel
theorem dX13_bringsTo_617 : decode cX13_bringsTo 617 = .ok (.iaload, 1) := by decide +kernel
theorem dX13_bringsTo_618 : decode cX13_bringsTo 618 = .ok (.aload_n 0, 1) := by decide +kernel
theorem dX13_bringsTo_619 : decode cX13_bringsTo 619 = .ok (.getfield 219, 3) := by decide +kernel
theorem dX13_bringsTo_622 : decode cX13_bringsTo 622 = .ok (.iload 10, 2) := by decide +kernel
theorem dX13_bringsTo_624 : decode cX13_bringsTo 624 = .ok (.iaload, 1) := by decide +kernel
theorem dX13_bringsTo_625 : decode cX13_bringsTo 625 = .ok (.isub, 1) := by decide +kernel
theorem dX13_bringsTo_626 : decode cX13_bringsTo 626 = .ok (.goto 18, 3) := by decide +kernel
theorem dX13_bringsTo_629 : decode cX13_bringsTo 629 = .ok (.aload_n 0, 1) := by decide +kernel
theorem dX13_bringsTo_630 : decode cX13_bringsTo 630 = .ok (.getfield 219, 3) := by decide +kernel
theorem dX13_bringsTo_633 : decode cX13_bringsTo 633 = .ok (.iload 10, 2) := by decide +kernel
theorem dX13_bringsTo_635 : decode cX13_bringsTo 635 = .ok (.iaload, 1) := by decide +kernel
theorem dX13_bringsTo_636 : decode cX13_bringsTo 636 = .ok (.aload_n 0, 1) := by decide +kernel
theorem dX13_bringsTo_637 : decode cX13_bringsTo 637 = .ok (.getfield 99, 3) := by decide +kernel
theorem dX13_bringsTo_640 : decode cX13_bringsTo 640 = .ok (.iload 10, 2) := by decide +kernel
theorem dX13_bringsTo_642 : decode cX13_bringsTo 642 = .ok (.iaload, 1) := by decide +kernel
theorem dX13_bringsTo_643 : decode cX13_bringsTo 643 = .ok (.isub, 1) := by decide +kernel
theorem dX13_bringsTo_644 : decode cX13_bringsTo 644 = .ok (.iadd, 1) := by decide +kernel
theorem dX13_bringsTo_645 : decode cX13_bringsTo 645 = .ok (.putfield 515, 3) := by decide +kernel
theorem dX13_bringsTo_648 : decode cX13_bringsTo 648 = .ok (.iinc 9 1, 3) := by decide +kernel
theorem dX13_bringsTo_651 : decode cX13_bringsTo 651 = .ok (.goto (-197), 3) := by decide +kernel
theorem dX13_bringsTo_654 : decode cX13_bringsTo 654 = .ok (.iload_n 3, 1) := by decide +kernel
theorem dX13_bringsTo_655 : decode cX13_bringsTo 655 = .ok (.ireturn, 1) := by decide +kernel
theorem dX13_lengths_0 : decode cX13_lengths 0 = .ok (.aload_n 0, 1) := by decide +kernel
theorem dX13_lengths_1 : decode cX13_lengths 1 = .ok (.iload_n 1, 1) := by decide +kernel
theorem dX13_lengths_2 : decode cX13_lengths 2 = .ok (.iload_n 2, 1) := by decide +kernel
theorem dX13_lengths_3 : decode cX13_lengths 3 = .ok (.invokevirtual 521, 3) := by decide +kernel
theorem dX13_lengths_6 : decode cX13_lengths 6 = .ok (.iconst (-1), 1) := by decide +kernel
theorem dX13_lengths_7 : decode cX13_lengths 7 = .ok (.if_icmp .ne 7, 3) := by decide +kernel
theorem dX13_lengths_10 : decode cX13_lengths 10 = .ok (.iconst (-1), 1) := by decide +kernel
theorem dX13_lengths_11 : decode cX13_lengths 11 = .ok (.goto 7, 3) := by decide +kernel
theorem dX13_lengths_14 : decode cX13_lengths 14 = .ok (.aload_n 0, 1) := by decide +kernel
theorem dX13_lengths_15 : decode cX13_lengths 15 = .ok (.getfield 515, 3) := by decide +kernel
theorem dX13_lengths_18 : decode cX13_lengths 18 = .ok (.ireturn, 1) := by decide +kernel
theorem dX13_length_0 : decode cX13_length 0 = .ok (.aload_n 0, 1) := by decide +kernel
theorem dX13_length_1 : decode cX13_length 1 = .ok (.iload_n 1, 1) := by decide +kernel
theorem dX13_length_2 : decode cX13_length 2 = .ok (.invokevirtual 467, 3) := by decide +kernel
theorem dX13_length_5 : decode cX13_length 5 = .ok (.ifCond .eq 32, 3) := by decide +kernel
theorem dX13_length_8 : decode cX13_length 8 = .ok (.aload_n 0, 1) := by decide +kernel
theorem dX13_length_9 : decode cX13_length 9 = .ok (.getfield 108, 3) := by decide +kernel
theorem dX13_length_12 : decode cX13_length 12 = .ok (.iload_n 1, 1) := by decide +kernel
theorem dX13_length_13 : decode cX13_length 13 = .ok (.baload, 1) := by decide +kernel
theorem dX13_length_14 : decode cX13_length 14 = .ok (.ifCond .ne 23, 3) := by decide +kernel
theorem dX13_length_17 : decode cX13_length 17 = .ok (.aload_n 0, 1) := by decide +kernel
theorem dX13_length_18 : decode cX13_length 18 = .ok (.getfield 114, 3) := by decide +kernel
theorem dX13_length_21 : decode cX13_length 21 = .ok (.iload_n 1, 1) := by decide +kernel
theorem dX13_length_22 : decode cX13_length 22 = .ok (.iaload, 1) := by decide +kernel
theorem dX13_length_23 : decode cX13_length 23 = .ok (.iconst (-1), 1) := by decide +kernel
theorem dX13_length_24 : decode cX13_length 24 = .ok (.if_icmp .ne 13, 3) := by decide +kernel
theorem dX13_length_27 : decode cX13_length 27 = .ok (.aload_n 0, 1) := by decide +kernel
theorem dX13_length_28 : decode cX13_length 28 = .ok (.iload_n 1, 1) := by decide +kernel
theorem dX13_length_29 : decode cX13_length 29 = .ok (.invokevirtual 433, 3) := by decide +kernel
theorem dX13_length_32 : decode cX13_length 32 = .ok (.bipush 6, 2) := by decide +kernel
theorem dX13_length_34 : decode cX13_length 34 = .ok (.if_icmp .ne 5, 3) := by decide +kernel
theorem dX13_length_37 : decode cX13_length 37 = .ok (.iconst (-1), 1) := by decide +kernel
theorem dX13_length_38 : decode cX13_length 38 = .ok (.ireturn, 1) := by decide +kernel
theorem dX13_length_39 : decode cX13_length 39 = .ok (.aload_n 0, 1) := by decide +kernel
theorem dX13_length_40 : decode cX13_length 40 = .ok (.aload_n 0, 1) := by decide +kernel
theorem dX13_length_41 : decode cX13_length 41 = .ok (.iload_n 1, 1) := by decide +kernel
theorem dX13_length_42 : decode cX13_length 42 = .ok (.invokevirtual 433, 3) := by decide +kernel
theorem dX13_length_45 : decode cX13_length 45 = .ok (.iload_n 2, 1) := by decide +kernel
theorem dX13_length_46 : decode cX13_length 46 = .ok (.invokevirtual 521, 3) := by decide +kernel
theorem dX13_length_49 : decode cX13_length 49 = .ok (.iconst (-1), 1) := by decide +kernel
theorem dX13_length_50 : decode cX13_length 50 = .ok (.if_icmp .ne 7, 3) := by decide +kernel
theorem dX13_length_53 : decode cX13_length 53 = .ok (.iconst (-1), 1) := by decide +kernel
theorem dX13_length_54 : decode cX13_length 54 = .ok (.goto 9, 3) := by decide +kernel
theorem dX13_length_57 : decode cX13_length 57 = .ok (.aload_n 0, 1) := by decide +kernel
theorem dX13_length_58 : decode cX13_length 58 = .ok (.getfield 219, 3) := by decide +kernel
theorem dX13_length_61 : decode cX13_length 61 = .ok (.iload_n 1, 1) := by decide +kernel
theorem dX13_length_62 : decode cX13_length 62 = .ok (.iaload, 1) := by decide +kernel
theorem dX13_length_63 : decode cX13_length 63 = .ok (.ireturn, 1) := by decide +kernel
theorem dX13_gives_0 : decode cX13_gives 0 = .ok (.iload_n 1, 1) := by decide +kernel
theorem dX13_gives_1 : decode cX13_gives 1 = .ok (.ifCond .le 35, 3) := by decide +kernel
theorem dX13_gives_4 : decode cX13_gives 4 = .ok (.iload_n 2, 1) := by decide +kernel
theorem dX13_gives_5 : decode cX13_gives 5 = .ok (.ifCond .le 31, 3) := by decide +kernel
theorem dX13_gives_8 : decode cX13_gives 8 = .ok (.iload_n 1, 1) := by decide +kernel
theorem dX13_gives_9 : decode cX13_gives 9 = .ok (.ldc_w 524, 3) := by decide +kernel
theorem dX13_gives_12 : decode cX13_gives 12 = .ok (.if_icmp .ge 24, 3) := by decide +kernel
theorem dX13_gives_15 : decode cX13_gives 15 = .ok (.iload_n 2, 1) := by decide +kernel
theorem dX13_gives_16 : decode cX13_gives 16 = .ok (.iconst 1, 1) := by decide +kernel
theorem dX13_gives_17 : decode cX13_gives 17 = .ok (.aload_n 0, 1) := by decide +kernel
theorem dX13_gives_18 : decode cX13_gives 18 = .ok (.getfield 445, 3) := by decide +kernel
theorem dX13_gives_21 : decode cX13_gives 21 = .ok (.ishl, 1) := by decide +kernel
theorem dX13_gives_22 : decode cX13_gives 22 = .ok (.if_icmp .ge 14, 3) := by decide +kernel
theorem dX13_gives_25 : decode cX13_gives 25 = .ok (.iload_n 3, 1) := by decide +kernel
theorem dX13_gives_26 : decode cX13_gives 26 = .ok (.iconst 1, 1) := by decide +kernel
theorem dX13_gives_27 : decode cX13_gives 27 = .ok (.sipush 400, 3) := by decide +kernel
theorem dX13_gives_30 : decode cX13_gives 30 = .ok (.invokestatic 256, 3) := by decide +kernel
theorem dX13_gives_33 : decode cX13_gives 33 = .ok (.ifCond .ne 5, 3) := by decide +kernel
theorem dX13_gives_36 : decode cX13_gives 36 = .ok (.iconst 0, 1) := by decide +kernel
theorem dX13_gives_37 : decode cX13_gives 37 = .ok (.ireturn, 1) := by decide +kernel
theorem dX13_gives_38 : decode cX13_gives 38 = .ok (.aload_n 0, 1) := by decide +kernel
theorem dX13_gives_39 : decode cX13_gives 39 = .ok (.iconst 0, 1) := by decide +kernel
theorem dX13_gives_40 : decode cX13_gives 40 = .ok (.putfield 525, 3) := by decide +kernel
theorem dX13_gives_43 : decode cX13_gives 43 = .ok (.aload_n 0, 1) := by decide +kernel
theorem dX13_gives_44 : decode cX13_gives 44 = .ok (.iconst 0, 1) := by decide +kernel
theorem dX13_gives_45 : decode cX13_gives 45 = .ok (.putfield 528, 3) := by decide +kernel
theorem dX13_gives_48 : decode cX13_gives 48 = .ok (.iconst 0, 1) := by decide +kernel
theorem dX13_gives_49 : decode cX13_gives 49 = .ok (.istore 4, 2) := by decide +kernel
theorem dX13_gives_51 : decode cX13_gives 51 = .ok (.iload 4, 2) := by decide +kernel
theorem dX13_gives_53 : decode cX13_gives 53 = .ok (.bipush 30, 2) := by decide +kernel
theorem dX13_gives_55 : decode cX13_gives 55 = .ok (.if_icmp .ge 141, 3) := by decide +kernel
theorem dX13_gives_58 : decode cX13_gives 58 = .ok (.iload_n 1, 1) := by decide +kernel
theorem dX13_gives_59 : decode cX13_gives 59 = .ok (.iload 4, 2) := by decide +kernel
theorem dX13_gives_61 : decode cX13_gives 61 = .ok (.ishr, 1) := by decide +kernel
theorem dX13_gives_62 : decode cX13_gives 62 = .ok (.iconst 1, 1) := by decide +kernel
theorem dX13_gives_63 : decode cX13_gives 63 = .ok (.iand, 1) := by decide +kernel
theorem dX13_gives_64 : decode cX13_gives 64 = .ok (.ifCond .ne 6, 3) := by decide +kernel
theorem dX13_gives_67 : decode cX13_gives 67 = .ok (.goto 123, 3) := by decide +kernel
theorem dX13_gives_70 : decode cX13_gives 70 = .ok (.aload_n 0, 1) := by decide +kernel
theorem dX13_gives_71 : decode cX13_gives 71 = .ok (.iload 4, 2) := by decide +kernel
theorem dX13_gives_73 : decode cX13_gives 73 = .ok (.invokevirtual 467, 3) := by decide +kernel
theorem dX13_gives_76 : decode cX13_gives 76 = .ok (.ifCond .eq 68, 3) := by decide +kernel
theorem dX13_gives_79 : decode cX13_gives 79 = .ok (.aload_n 0, 1) := by decide +kernel
theorem dX13_gives_80 : decode cX13_gives 80 = .ok (.getfield 108, 3) := by decide +kernel
theorem dX13_gives_83 : decode cX13_gives 83 = .ok (.iload 4, 2) := by decide +kernel
theorem dX13_gives_85 : decode cX13_gives 85 = .ok (.baload, 1) := by decide +kernel
theorem dX13_gives_86 : decode cX13_gives 86 = .ok (.ifCond .ne 58, 3) := by decide +kernel
theorem dX13_gives_89 : decode cX13_gives 89 = .ok (.aload_n 0, 1) := by decide +kernel
theorem dX13_gives_90 : decode cX13_gives 90 = .ok (.getfield 114, 3) := by decide +kernel
theorem dX13_gives_93 : decode cX13_gives 93 = .ok (.iload 4, 2) := by decide +kernel
theorem dX13_gives_95 : decode cX13_gives 95 = .ok (.iaload, 1) := by decide +kernel
theorem dX13_gives_96 : decode cX13_gives 96 = .ok (.iconst (-1), 1) := by decide +kernel
theorem dX13_gives_97 : decode cX13_gives 97 = .ok (.if_icmp .ne 47, 3) := by decide +kernel
theorem dX13_gives_100 : decode cX13_gives 100 = .ok (.aload_n 0, 1) := by decide +kernel
theorem dX13_gives_101 : decode cX13_gives 101 = .ok (.iload 4, 2) := by decide +kernel
theorem dX13_gives_103 : decode cX13_gives 103 = .ok (.invokevirtual 458, 3) := by decide +kernel
theorem dX13_gives_106 : decode cX13_gives 106 = .ok (.ifCond .ne 38, 3) := by decide +kernel
theorem dX13_gives_109 : decode cX13_gives 109 = .ok (.aload_n 0, 1) := by decide +kernel
theorem dX13_gives_110 : decode cX13_gives 110 = .ok (.getfield 105, 3) := by decide +kernel
theorem dX13_gives_113 : decode cX13_gives 113 = .ok (.iload 4, 2) := by decide +kernel
theorem dX13_gives_115 : decode cX13_gives 115 = .ok (.iaload, 1) := by decide +kernel
theorem dX13_gives_116 : decode cX13_gives 116 = .ok (.iconst (-1), 1) := by decide +kernel
theorem dX13_gives_117 : decode cX13_gives 117 = .ok (.if_icmp .eq 18, 3) := by decide +kernel
theorem dX13_gives_120 : decode cX13_gives 120 = .ok (.aload_n 0, 1) := by decide +kernel
theorem dX13_gives_121 : decode cX13_gives 121 = .ok (.getfield 129, 3) := by decide +kernel
theorem dX13_gives_124 : decode cX13_gives 124 = .ok (.aload_n 0, 1) := by decide +kernel
theorem dX13_gives_125 : decode cX13_gives 125 = .ok (.getfield 105, 3) := by decide +kernel
theorem dX13_gives_128 : decode cX13_gives 128 = .ok (.iload 4, 2) := by decide +kernel
theorem dX13_gives_130 : decode cX13_gives 130 = .ok (.iaload, 1) := by decide +kernel
theorem dX13_gives_131 : decode cX13_gives 131 = .ok (.baload, 1) := by decide +kernel
theorem dX13_gives_132 : decode cX13_gives 132 = .ok (.ifCond .eq 12, 3) := by decide +kernel
theorem dX13_gives_135 : decode cX13_gives 135 = .ok (.aload_n 0, 1) := by decide +kernel
theorem dX13_gives_136 : decode cX13_gives 136 = .ok (.getfield 525, 3) := by decide +kernel
theorem dX13_gives_139 : decode cX13_gives 139 = .ok (.bipush 7, 2) := by decide +kernel
theorem dX13_gives_141 : decode cX13_gives 141 = .ok (.if_icmp .ne 5, 3) := by decide +kernel
theorem dX13_gives_144 : decode cX13_gives 144 = .ok (.iconst 0, 1) := by decide +kernel
theorem dX13_gives_145 : decode cX13_gives 145 = .ok (.ireturn, 1) := by decide +kernel
theorem dX13_gives_146 : decode cX13_gives 146 = .ok (.aload_n 0, 1) := by decide +kernel
theorem dX13_gives_147 : decode cX13_gives 147 = .ok (.getfield 222, 3) := by decide +kernel
theorem dX13_gives_150 : decode cX13_gives 150 = .ok (.aload_n 0, 1) := by decide +kernel
theorem dX13_gives_151 : decode cX13_gives 151 = .ok (.getfield 525, 3) := by decide +kernel
theorem dX13_gives_154 : decode cX13_gives 154 = .ok (.iload 4, 2) := by decide +kernel
theorem dX13_gives_156 : decode cX13_gives 156 = .ok (.iastore, 1) := by decide +kernel
theorem dX13_gives_157 : decode cX13_gives 157 = .ok (.aload_n 0, 1) := by decide +kernel
theorem dX13_gives_158 : decode cX13_gives 158 = .ok (.getfield 234, 3) := by decide +kernel
theorem dX13_gives_161 : decode cX13_gives 161 = .ok (.aload_n 0, 1) := by decide +kernel
theorem dX13_gives_162 : decode cX13_gives 162 = .ok (.getfield 525, 3) := by decide +kernel
theorem dX13_gives_165 : decode cX13_gives 165 = .ok (.aload_n 0, 1) := by decide +kernel
theorem dX13_gives_166 : decode cX13_gives 166 = .ok (.getfield 99, 3) := by decide +kernel
theorem dX13_gives_169 : decode cX13_gives 169 = .ok (.iload 4, 2) := by decide +kernel
theorem dX13_gives_171 : decode cX13_gives 171 = .ok (.iaload, 1) := by decide +kernel
theorem dX13_gives_172 : decode cX13_gives 172 = .ok (.aload_n 0, 1) := by decide +kernel
theorem dX13_gives_173 : decode cX13_gives 173 = .ok (.iload 4, 2) := by decide +kernel
theorem dX13_gives_175 : decode cX13_gives 175 = .ok (.invokevirtual 455, 3) := by decide +kernel
theorem dX13_gives_178 : decode cX13_gives 178 = .ok (.isub, 1) := by decide +kernel
theorem dX13_gives_179 : decode cX13_gives 179 = .ok (.iastore, 1) := by decide +kernel
theorem dX13_gives_180 : decode cX13_gives 180 = .ok (.aload_n 0, 1) := by decide +kernel
theorem dX13_gives_181 : decode cX13_gives 181 = .ok (.dup, 1) := by decide +kernel
theorem dX13_gives_182 : decode cX13_gives 182 = .ok (.getfield 525, 3) := by decide +kernel
theorem dX13_gives_185 : decode cX13_gives 185 = .ok (.iconst 1, 1) := by decide +kernel
theorem dX13_gives_186 : decode cX13_gives 186 = .ok (.iadd, 1) := by decide +kernel
theorem dX13_gives_187 : decode cX13_gives 187 = .ok (.putfield 525, 3) := by decide +kernel
theorem dX13_gives_190 : decode cX13_gives 190 = .ok (.iinc 4 1, 3) := by decide +kernel
theorem dX13_gives_193 : decode cX13_gives 193 = .ok (.goto (-142), 3) := by decide +kernel
theorem dX13_gives_196 : decode cX13_gives 196 = .ok (.iconst 0, 1) := by decide +kernel
theorem dX13_gives_197 : decode cX13_gives 197 = .ok (.istore 4, 2) := by decide +kernel
theorem dX13_gives_199 : decode cX13_gives 199 = .ok (.iload 4, 2) := by decide +kernel
theorem dX13_gives_201 : decode cX13_gives 201 = .ok (.aload_n 0, 1) := by decide +kernel
theorem dX13_gives_202 : decode cX13_gives 202 = .ok (.getfield 445, 3) := by decide +kernel
theorem dX13_gives_205 : decode cX13_gives 205 = .ok (.if_icmp .ge 63, 3) := by decide +kernel
theorem dX13_gives_208 : decode cX13_gives 208 = .ok (.iload_n 2, 1) := by decide +kernel
theorem dX13_gives_209 : decode cX13_gives 209 = .ok (.iload 4, 2) := by decide +kernel
theorem dX13_gives_211 : decode cX13_gives 211 = .ok (.ishr, 1) := by decide +kernel
theorem dX13_gives_212 : decode cX13_gives 212 = .ok (.iconst 1, 1) := by decide +kernel
theorem dX13_gives_213 : decode cX13_gives 213 = .ok (.iand, 1) := by decide +kernel
theorem dX13_gives_214 : decode cX13_gives 214 = .ok (.ifCond .ne 6, 3) := by decide +kernel
theorem dX13_gives_217 : decode cX13_gives 217 = .ok (.goto 45, 3) := by decide +kernel
theorem dX13_gives_220 : decode cX13_gives 220 = .ok (.aload_n 0, 1) := by decide +kernel
theorem dX13_gives_221 : decode cX13_gives 221 = .ok (.getfield 129, 3) := by decide +kernel
theorem dX13_gives_224 : decode cX13_gives 224 = .ok (.iload 4, 2) := by decide +kernel
theorem dX13_gives_226 : decode cX13_gives 226 = .ok (.baload, 1) := by decide +kernel
theorem dX13_gives_227 : decode cX13_gives 227 = .ok (.ifCond .ne 12, 3) := by decide +kernel
theorem dX13_gives_230 : decode cX13_gives 230 = .ok (.aload_n 0, 1) := by decide +kernel
theorem dX13_gives_231 : decode cX13_gives 231 = .ok (.getfield 528, 3) := by decide +kernel
theorem dX13_gives_234 : decode cX13_gives 234 = .ok (.bipush 6, 2) := by decide +kernel
theorem dX13_gives_236 : decode cX13_gives 236 = .ok (.if_icmp .ne 5, 3) := by decide +kernel
theorem dX13_gives_239 : decode cX13_gives 239 = .ok (.iconst 0, 1) := by decide +kernel
theorem dX13_gives_240 : decode cX13_gives 240 = .ok (.ireturn, 1) := by decide +kernel
theorem dX13_gives_241 : decode cX13_gives 241 = .ok (.aload_n 0, 1) := by decide +kernel
theorem dX13_gives_242 : decode cX13_gives 242 = .ok (.getfield 225, 3) := by decide +kernel
theorem dX13_gives_245 : decode cX13_gives 245 = .ok (.aload_n 0, 1) := by decide +kernel
theorem dX13_gives_246 : decode cX13_gives 246 = .ok (.getfield 528, 3) := by decide +kernel
theorem dX13_gives_249 : decode cX13_gives 249 = .ok (.iload 4, 2) := by decide +kernel
theorem dX13_gives_251 : decode cX13_gives 251 = .ok (.iastore, 1) := by decide +kernel
theorem dX13_gives_252 : decode cX13_gives 252 = .ok (.aload_n 0, 1) := by decide +kernel
theorem dX13_gives_253 : decode cX13_gives 253 = .ok (.dup, 1) := by decide +kernel
theorem dX13_gives_254 : decode cX13_gives 254 = .ok (.getfield 528, 3) := by decide +kernel
theorem dX13_gives_257 : decode cX13_gives 257 = .ok (.iconst 1, 1) := by decide +kernel
theorem dX13_gives_258 : decode cX13_gives 258 = .ok (.iadd, 1) := by decide +kernel
theorem dX13_gives_259 : decode cX13_gives 259 = .ok (.putfield 528, 3) := by decide +kernel
theorem dX13_gives_262 : decode cX13_gives 262 = .ok (.iinc 4 1, 3) := by decide +kernel
theorem dX13_gives_265 : decode cX13_gives 265 = .ok (.goto (-66), 3) := by decide +kernel
theorem dX13_gives_268 : decode cX13_gives 268 = .ok (.iconst 1, 1) := by decide +kernel
theorem dX13_gives_269 : decode cX13_gives 269 = .ok (.istore 4, 2) := by decide +kernel
theorem dX13_gives_271 : decode cX13_gives 271 = .ok (.iconst 0, 1) := by decide +kernel
theorem dX13_gives_272 : decode cX13_gives 272 = .ok (.istore 5, 2) := by decide +kernel
theorem dX13_gives_274 : decode cX13_gives 274 = .ok (.iload 5, 2) := by decide +kernel
theorem dX13_gives_276 : decode cX13_gives 276 = .ok (.aload_n 0, 1) := by decide +kernel
theorem dX13_gives_277 : decode cX13_gives 277 = .ok (.getfield 525, 3) := by decide +kernel
theorem dX13_gives_280 : decode cX13_gives 280 = .ok (.if_icmp .ge 69, 3) := by decide +kernel
theorem dX13_gives_283 : decode cX13_gives 283 = .ok (.iload 4, 2) := by decide +kernel
theorem dX13_gives_285 : decode cX13_gives 285 = .ok (.aload_n 0, 1) := by decide +kernel
theorem dX13_gives_286 : decode cX13_gives 286 = .ok (.getfield 528, 3) := by decide +kernel
theorem dX13_gives_289 : decode cX13_gives 289 = .ok (.iconst 1, 1) := by decide +kernel
theorem dX13_gives_290 : decode cX13_gives 290 = .ok (.iadd, 1) := by decide +kernel
theorem dX13_gives_291 : decode cX13_gives 291 = .ok (.imul, 1) := by decide +kernel
theorem dX13_gives_292 : decode cX13_gives 292 = .ok (.istore 4, 2) := by decide +kernel
theorem dX13_gives_294 : decode cX13_gives 294 = .ok (.iconst 0, 1) := by decide +kernel
theorem dX13_gives_295 : decode cX13_gives 295 = .ok (.istore 6, 2) := by decide +kernel
theorem dX13_gives_297 : decode cX13_gives 297 = .ok (.iload 6, 2) := by decide +kernel
theorem dX13_gives_299 : decode cX13_gives 299 = .ok (.aload_n 0, 1) := by decide +kernel
theorem dX13_gives_300 : decode cX13_gives 300 = .ok (.getfield 528, 3) := by decide +kernel
theorem dX13_gives_303 : decode cX13_gives 303 = .ok (.if_icmp .ge 40, 3) := by decide +kernel
theorem dX13_gives_306 : decode cX13_gives 306 = .ok (.aload_n 0, 1) := by decide +kernel
theorem dX13_gives_307 : decode cX13_gives 307 = .ok (.getfield 228, 3) := by decide +kernel
theorem dX13_gives_310 : decode cX13_gives 310 = .ok (.bipush 6, 2) := by decide +kernel
theorem dX13_gives_312 : decode cX13_gives 312 = .ok (.iload 5, 2) := by decide +kernel
theorem dX13_gives_314 : decode cX13_gives 314 = .ok (.imul, 1) := by decide +kernel
theorem dX13_gives_315 : decode cX13_gives 315 = .ok (.iload 6, 2) := by decide +kernel
theorem dX13_gives_317 : decode cX13_gives 317 = .ok (.iadd, 1) := by decide +kernel
theorem dX13_gives_318 : decode cX13_gives 318 = .ok (.aload_n 0, 1) := by decide +kernel
theorem dX13_gives_319 : decode cX13_gives 319 = .ok (.aload_n 0, 1) := by decide +kernel
theorem dX13_gives_320 : decode cX13_gives 320 = .ok (.getfield 222, 3) := by decide +kernel
theorem dX13_gives_323 : decode cX13_gives 323 = .ok (.iload 5, 2) := by decide +kernel
theorem dX13_gives_325 : decode cX13_gives 325 = .ok (.iaload, 1) := by decide +kernel
theorem dX13_gives_326 : decode cX13_gives 326 = .ok (.aload_n 0, 1) := by decide +kernel
theorem dX13_gives_327 : decode cX13_gives 327 = .ok (.getfield 225, 3) := by decide +kernel
theorem dX13_gives_330 : decode cX13_gives 330 = .ok (.iload 6, 2) := by decide +kernel
theorem dX13_gives_332 : decode cX13_gives 332 = .ok (.iaload, 1) := by decide +kernel
theorem dX13_gives_333 : decode cX13_gives 333 = .ok (.invokevirtual 473, 3) := by decide +kernel
theorem dX13_gives_336 : decode cX13_gives 336 = .ok (.bastore, 1) := by decide +kernel
theorem dX13_gives_337 : decode cX13_gives 337 = .ok (.iinc 6 1, 3) := by decide +kernel
theorem dX13_gives_340 : decode cX13_gives 340 = .ok (.goto (-43), 3) := by decide +kernel
theorem dX13_gives_343 : decode cX13_gives 343 = .ok (.iinc 5 1, 3) := by decide +kernel
theorem dX13_gives_346 : decode cX13_gives 346 = .ok (.goto (-72), 3) := by decide +kernel
theorem dX13_gives_349 : decode cX13_gives 349 = .ok (.aload_n 0, 1) := by decide +kernel
theorem dX13_gives_350 : decode cX13_gives 350 = .ok (.iconst (-1), 1) := by decide +kernel
theorem dX13_gives_351 : decode cX13_gives 351 = .ok (.putfield 531, 3) := by decide +kernel
theorem dX13_gives_354 : decode cX13_gives 354 = .ok (.iconst 0, 1) := by decide +kernel
theorem dX13_gives_355 : decode cX13_gives 355 = .ok (.istore 5, 2) := by decide +kernel
theorem dX13_gives_357 : decode cX13_gives 357 = .ok (.iload 5, 2) := by decide +kernel
theorem dX13_gives_359 : decode cX13_gives 359 = .ok (.iload 4, 2) := by decide +kernel
theorem dX13_gives_361 : decode cX13_gives 361 = .ok (.if_icmp .ge 16, 3) := by decide +kernel
theorem dX13_gives_364 : decode cX13_gives 364 = .ok (.aload_n 0, 1) := by decide +kernel
theorem dX13_gives_365 : decode cX13_gives 365 = .ok (.iload 5, 2) := by decide +kernel
theorem dX13_gives_367 : decode cX13_gives 367 = .ok (.iload_n 3, 1) := by decide +kernel
theorem dX13_gives_368 : decode cX13_gives 368 = .ok (.invokevirtual 534, 3) := by decide +kernel
theorem dX13_gives_371 : decode cX13_gives 371 = .ok (.iinc 5 1, 3) := by decide +kernel
theorem dX13_gives_374 : decode cX13_gives 374 = .ok (.goto (-17), 3) := by decide +kernel
theorem dX13_gives_377 : decode cX13_gives 377 = .ok (.iconst 1, 1) := by decide +kernel
theorem dX13_gives_378 : decode cX13_gives 378 = .ok (.ireturn, 1) := by decide +kernel
theorem dX13_way_0 : decode cX13_way 0 = .ok (.iconst 0, 1) := by decide +kernel
theorem dX13_way_1 : decode cX13_way 1 = .ok (.istore_n 3, 1) := by decide +kernel
theorem dX13_way_2 : decode cX13_way 2 = .ok (.iload_n 3, 1) := by decide +kernel
theorem dX13_way_3 : decode cX13_way 3 = .ok (.aload_n 0, 1) := by decide +kernel
theorem dX13_way_4 : decode cX13_way 4 = .ok (.getfield 528, 3) := by decide +kernel
theorem dX13_way_7 : decode cX13_way 7 = .ok (.if_icmp .ge 16, 3) := by decide +kernel
theorem dX13_way_10 : decode cX13_way 10 = .ok (.aload_n 0, 1) := by decide +kernel
theorem dX13_way_11 : decode cX13_way 11 = .ok (.getfield 231, 3) := by decide +kernel
theorem dX13_way_14 : decode cX13_way 14 = .ok (.iload_n 3, 1) := by decide +kernel
theorem dX13_way_15 : decode cX13_way 15 = .ok (.iconst 0, 1) := by decide +kernel
theorem dX13_way_16 : decode cX13_way 16 = .ok (.iastore, 1) := by decide +kernel
theorem dX13_way_17 : decode cX13_way 17 = .ok (.iinc 3 1, 3) := by decide +kernel
theorem dX13_way_20 : decode cX13_way 20 = .ok (.goto (-18), 3) := by decide +kernel
theorem dX13_way_23 : decode cX13_way 23 = .ok (.iload_n 1, 1) := by decide +kernel
theorem dX13_way_24 : decode cX13_way 24 = .ok (.istore_n 3, 1) := by decide +kernel
theorem dX13_way_25 : decode cX13_way 25 = .ok (.iconst 0, 1) := by decide +kernel
theorem dX13_way_26 : decode cX13_way 26 = .ok (.istore 4, 2) := by decide +kernel
theorem dX13_way_28 : decode cX13_way 28 = .ok (.iconst 0, 1) := by decide +kernel
theorem dX13_way_29 : decode cX13_way 29 = .ok (.istore 5, 2) := by decide +kernel
theorem dX13_way_31 : decode cX13_way 31 = .ok (.aload_n 0, 1) := by decide +kernel
theorem dX13_way_32 : decode cX13_way 32 = .ok (.getfield 525, 3) := by decide +kernel
theorem dX13_way_35 : decode cX13_way 35 = .ok (.iconst 1, 1) := by decide +kernel
theorem dX13_way_36 : decode cX13_way 36 = .ok (.isub, 1) := by decide +kernel
theorem dX13_way_37 : decode cX13_way 37 = .ok (.istore 6, 2) := by decide +kernel
theorem dX13_way_39 : decode cX13_way 39 = .ok (.iload 6, 2) := by decide +kernel
theorem dX13_way_41 : decode cX13_way 41 = .ok (.ifCond .lt 129, 3) := by decide +kernel
theorem dX13_way_44 : decode cX13_way 44 = .ok (.iload_n 3, 1) := by decide +kernel
theorem dX13_way_45 : decode cX13_way 45 = .ok (.aload_n 0, 1) := by decide +kernel
theorem dX13_way_46 : decode cX13_way 46 = .ok (.getfield 528, 3) := by decide +kernel
theorem dX13_way_49 : decode cX13_way 49 = .ok (.iconst 1, 1) := by decide +kernel
theorem dX13_way_50 : decode cX13_way 50 = .ok (.iadd, 1) := by decide +kernel
theorem dX13_way_51 : decode cX13_way 51 = .ok (.irem, 1) := by decide +kernel
theorem dX13_way_52 : decode cX13_way 52 = .ok (.istore 7, 2) := by decide +kernel
theorem dX13_way_54 : decode cX13_way 54 = .ok (.iload_n 3, 1) := by decide +kernel
theorem dX13_way_55 : decode cX13_way 55 = .ok (.aload_n 0, 1) := by decide +kernel
theorem dX13_way_56 : decode cX13_way 56 = .ok (.getfield 528, 3) := by decide +kernel
theorem dX13_way_59 : decode cX13_way 59 = .ok (.iconst 1, 1) := by decide +kernel
theorem dX13_way_60 : decode cX13_way 60 = .ok (.iadd, 1) := by decide +kernel
theorem dX13_way_61 : decode cX13_way 61 = .ok (.idiv, 1) := by decide +kernel
theorem dX13_way_62 : decode cX13_way 62 = .ok (.istore_n 3, 1) := by decide +kernel
theorem dX13_way_63 : decode cX13_way 63 = .ok (.iload 7, 2) := by decide +kernel
theorem dX13_way_65 : decode cX13_way 65 = .ok (.aload_n 0, 1) := by decide +kernel
theorem dX13_way_66 : decode cX13_way 66 = .ok (.getfield 528, 3) := by decide +kernel
theorem dX13_way_69 : decode cX13_way 69 = .ok (.if_icmp .ne 6, 3) := by decide +kernel
theorem dX13_way_72 : decode cX13_way 72 = .ok (.goto 92, 3) := by decide +kernel
theorem dX13_way_75 : decode cX13_way 75 = .ok (.aload_n 0, 1) := by decide +kernel
theorem dX13_way_76 : decode cX13_way 76 = .ok (.getfield 228, 3) := by decide +kernel
theorem dX13_way_79 : decode cX13_way 79 = .ok (.bipush 6, 2) := by decide +kernel
theorem dX13_way_81 : decode cX13_way 81 = .ok (.iload 6, 2) := by decide +kernel
theorem dX13_way_83 : decode cX13_way 83 = .ok (.imul, 1) := by decide +kernel
theorem dX13_way_84 : decode cX13_way 84 = .ok (.iload 7, 2) := by decide +kernel
theorem dX13_way_86 : decode cX13_way 86 = .ok (.iadd, 1) := by decide +kernel
theorem dX13_way_87 : decode cX13_way 87 = .ok (.baload, 1) := by decide +kernel
theorem dX13_way_88 : decode cX13_way 88 = .ok (.ifCond .ne 4, 3) := by decide +kernel
theorem dX13_way_91 : decode cX13_way 91 = .ok (.return_, 1) := by decide +kernel
theorem dX13_way_92 : decode cX13_way 92 = .ok (.aload_n 0, 1) := by decide +kernel
theorem dX13_way_93 : decode cX13_way 93 = .ok (.getfield 231, 3) := by decide +kernel
theorem dX13_way_96 : decode cX13_way 96 = .ok (.iload 7, 2) := by decide +kernel
theorem dX13_way_98 : decode cX13_way 98 = .ok (.dup2, 1) := by decide +kernel
theorem dX13_way_99 : decode cX13_way 99 = .ok (.iaload, 1) := by decide +kernel
theorem dX13_way_100 : decode cX13_way 100 = .ok (.aload_n 0, 1) := by decide +kernel
theorem dX13_way_101 : decode cX13_way 101 = .ok (.getfield 234, 3) := by decide +kernel
theorem dX13_way_104 : decode cX13_way 104 = .ok (.iload 6, 2) := by decide +kernel
theorem dX13_way_106 : decode cX13_way 106 = .ok (.iaload, 1) := by decide +kernel
theorem dX13_way_107 : decode cX13_way 107 = .ok (.iadd, 1) := by decide +kernel
theorem dX13_way_108 : decode cX13_way 108 = .ok (.iastore, 1) := by decide +kernel
theorem dX13_way_109 : decode cX13_way 109 = .ok (.aload_n 0, 1) := by decide +kernel
theorem dX13_way_110 : decode cX13_way 110 = .ok (.getfield 231, 3) := by decide +kernel
theorem dX13_way_113 : decode cX13_way 113 = .ok (.iload 7, 2) := by decide +kernel
theorem dX13_way_115 : decode cX13_way 115 = .ok (.iaload, 1) := by decide +kernel
theorem dX13_way_116 : decode cX13_way 116 = .ok (.aload_n 0, 1) := by decide +kernel
theorem dX13_way_117 : decode cX13_way 117 = .ok (.getfield 123, 3) := by decide +kernel
theorem dX13_way_120 : decode cX13_way 120 = .ok (.aload_n 0, 1) := by decide +kernel
theorem dX13_way_121 : decode cX13_way 121 = .ok (.getfield 225, 3) := by decide +kernel
theorem dX13_way_124 : decode cX13_way 124 = .ok (.iload 7, 2) := by decide +kernel
theorem dX13_way_126 : decode cX13_way 126 = .ok (.iaload, 1) := by decide +kernel
theorem dX13_way_127 : decode cX13_way 127 = .ok (.iaload, 1) := by decide +kernel
theorem dX13_way_128 : decode cX13_way 128 = .ok (.iadd, 1) := by decide +kernel
theorem dX13_way_129 : decode cX13_way 129 = .ok (.iconst 1, 1) := by decide +kernel
theorem dX13_way_130 : decode cX13_way 130 = .ok (.isub, 1) := by decide +kernel
theorem dX13_way_131 : decode cX13_way 131 = .ok (.aload_n 0, 1) := by decide +kernel
theorem dX13_way_132 : decode cX13_way 132 = .ok (.getfield 123, 3) := by decide +kernel
theorem dX13_way_135 : decode cX13_way 135 = .ok (.aload_n 0, 1) := by decide +kernel
theorem dX13_way_136 : decode cX13_way 136 = .ok (.getfield 225, 3) := by decide +kernel
theorem dX13_way_139 : decode cX13_way 139 = .ok (.iload 7, 2) := by decide +kernel
theorem dX13_way_141 : decode cX13_way 141 = .ok (.iaload, 1) := by decide +kernel
theorem dX13_way_142 : decode cX13_way 142 = .ok (.iaload, 1) := by decide +kernel
theorem dX13_way_143 : decode cX13_way 143 = .ok (.idiv, 1) := by decide +kernel
theorem dX13_way_144 : decode cX13_way 144 = .ok (.iload_n 2, 1) := by decide +kernel
theorem dX13_way_145 : decode cX13_way 145 = .ok (.if_icmp .le 4, 3) := by decide +kernel
theorem dX13_way_148 : decode cX13_way 148 = .ok (.return_, 1) := by decide +kernel
theorem dX13_way_149 : decode cX13_way 149 = .ok (.iinc 4 1, 3) := by decide +kernel
theorem dX13_way_152 : decode cX13_way 152 = .ok (.iload 5, 2) := by decide +kernel
theorem dX13_way_154 : decode cX13_way 154 = .ok (.aload_n 0, 1) := by decide +kernel
theorem dX13_way_155 : decode cX13_way 155 = .ok (.getfield 234, 3) := by decide +kernel
theorem dX13_way_158 : decode cX13_way 158 = .ok (.iload 6, 2) := by decide +kernel
theorem dX13_way_160 : decode cX13_way 160 = .ok (.iaload, 1) := by decide +kernel
theorem dX13_way_161 : decode cX13_way 161 = .ok (.iadd, 1) := by decide +kernel
theorem dX13_way_162 : decode cX13_way 162 = .ok (.istore 5, 2) := by decide +kernel
theorem dX13_way_164 : decode cX13_way 164 = .ok (.iinc 6 (-1), 3) := by decide +kernel
theorem dX13_way_167 : decode cX13_way 167 = .ok (.goto (-128), 3) := by decide +kernel
theorem dX13_way_170 : decode cX13_way 170 = .ok (.iload 4, 2) := by decide +kernel
theorem dX13_way_172 : decode cX13_way 172 = .ok (.aload_n 0, 1) := by decide +kernel
theorem dX13_way_173 : decode cX13_way 173 = .ok (.getfield 531, 3) := by decide +kernel
theorem dX13_way_176 : decode cX13_way 176 = .ok (.if_icmp .lt 21, 3) := by decide +kernel
theorem dX13_way_179 : decode cX13_way 179 = .ok (.iload 4, 2) := by decide +kernel
theorem dX13_way_181 : decode cX13_way 181 = .ok (.aload_n 0, 1) := by decide +kernel
theorem dX13_way_182 : decode cX13_way 182 = .ok (.getfield 531, 3) := by decide +kernel
theorem dX13_way_185 : decode cX13_way 185 = .ok (.if_icmp .ne 13, 3) := by decide +kernel
theorem dX13_way_188 : decode cX13_way 188 = .ok (.iload 5, 2) := by decide +kernel
theorem dX13_way_190 : decode cX13_way 190 = .ok (.aload_n 0, 1) := by decide +kernel
theorem dX13_way_191 : decode cX13_way 191 = .ok (.getfield 537, 3) := by decide +kernel
theorem dX13_way_194 : decode cX13_way 194 = .ok (.if_icmp .lt 4, 3) := by decide +kernel
theorem dX13_way_197 : decode cX13_way 197 = .ok (.return_, 1) := by decide +kernel
theorem dX13_way_198 : decode cX13_way 198 = .ok (.aload_n 0, 1) := by decide +kernel
theorem dX13_way_199 : decode cX13_way 199 = .ok (.iload 4, 2) := by decide +kernel
theorem dX13_way_201 : decode cX13_way 201 = .ok (.putfield 531, 3) := by decide +kernel
theorem dX13_way_204 : decode cX13_way 204 = .ok (.aload_n 0, 1) := by decide +kernel
theorem dX13_way_205 : decode cX13_way 205 = .ok (.iload 5, 2) := by decide +kernel
theorem dX13_way_207 : decode cX13_way 207 = .ok (.putfield 537, 3) := by decide +kernel
theorem dX13_way_210 : decode cX13_way 210 = .ok (.aload_n 0, 1) := by decide +kernel
theorem dX13_way_211 : decode cX13_way 211 = .ok (.iload_n 1, 1) := by decide +kernel
theorem dX13_way_212 : decode cX13_way 212 = .ok (.putfield 540, 3) := by decide +kernel
theorem dX13_way_215 : decode cX13_way 215 = .ok (.return_, 1) := by decide +kernel
theorem dX13_giving_0 : decode cX13_giving 0 = .ok (.aload_n 0, 1) := by decide +kernel
theorem dX13_giving_1 : decode cX13_giving 1 = .ok (.iload_n 1, 1) := by decide +kernel
theorem dX13_giving_2 : decode cX13_giving 2 = .ok (.iload_n 2, 1) := by decide +kernel
theorem dX13_giving_3 : decode cX13_giving 3 = .ok (.iload_n 3, 1) := by decide +kernel
theorem dX13_giving_4 : decode cX13_giving 4 = .ok (.invokevirtual 543, 3) := by decide +kernel
theorem dX13_giving_7 : decode cX13_giving 7 = .ok (.ifCond .eq 10, 3) := by decide +kernel
theorem dX13_giving_10 : decode cX13_giving 10 = .ok (.aload_n 0, 1) := by decide +kernel
theorem dX13_giving_11 : decode cX13_giving 11 = .ok (.getfield 531, 3) := by decide +kernel
theorem dX13_giving_14 : decode cX13_giving 14 = .ok (.goto 4, 3) := by decide +kernel
theorem dX13_giving_17 : decode cX13_giving 17 = .ok (.iconst (-1), 1) := by decide +kernel
theorem dX13_giving_18 : decode cX13_giving 18 = .ok (.ireturn, 1) := by decide +kernel
theorem dX13_given_0 : decode cX13_given 0 = .ok (.aload_n 0, 1) := by decide +kernel
theorem dX13_given_1 : decode cX13_given 1 = .ok (.iload_n 1, 1) := by decide +kernel
theorem dX13_given_2 : decode cX13_given 2 = .ok (.iload_n 2, 1) := by decide +kernel
theorem dX13_given_3 : decode cX13_given 3 = .ok (.iload_n 3, 1) := by decide +kernel
theorem dX13_given_4 : decode cX13_given 4 = .ok (.invokevirtual 543, 3) := by decide +kernel
theorem dX13_given_7 : decode cX13_given 7 = .ok (.ifCond .ne 5, 3) := by decide +kernel
theorem dX13_given_10 : decode cX13_given 10 = .ok (.iconst (-1), 1) := by decide +kernel
theorem dX13_given_11 : decode cX13_given 11 = .ok (.ireturn, 1) := by decide +kernel
theorem dX13_given_12 : decode cX13_given 12 = .ok (.aload_n 0, 1) := by decide +kernel
theorem dX13_given_13 : decode cX13_given 13 = .ok (.getfield 540, 3) := by decide +kernel
theorem dX13_given_16 : decode cX13_given 16 = .ok (.istore 5, 2) := by decide +kernel
theorem dX13_given_18 : decode cX13_given 18 = .ok (.aload_n 0, 1) := by decide +kernel
theorem dX13_given_19 : decode cX13_given 19 = .ok (.getfield 525, 3) := by decide +kernel
theorem dX13_given_22 : decode cX13_given 22 = .ok (.iconst 1, 1) := by decide +kernel
theorem dX13_given_23 : decode cX13_given 23 = .ok (.isub, 1) := by decide +kernel
theorem dX13_given_24 : decode cX13_given 24 = .ok (.istore 6, 2) := by decide +kernel
theorem dX13_given_26 : decode cX13_given 26 = .ok (.iload 6, 2) := by decide +kernel
theorem dX13_given_28 : decode cX13_given 28 = .ok (.ifCond .lt 67, 3) := by decide +kernel
theorem dX13_given_31 : decode cX13_given 31 = .ok (.aload_n 0, 1) := by decide +kernel
theorem dX13_given_32 : decode cX13_given 32 = .ok (.getfield 222, 3) := by decide +kernel
theorem dX13_given_35 : decode cX13_given 35 = .ok (.iload 6, 2) := by decide +kernel
theorem dX13_given_37 : decode cX13_given 37 = .ok (.iaload, 1) := by decide +kernel
theorem dX13_given_38 : decode cX13_given 38 = .ok (.iload 4, 2) := by decide +kernel
theorem dX13_given_40 : decode cX13_given 40 = .ok (.if_icmp .ne 38, 3) := by decide +kernel
theorem dX13_given_43 : decode cX13_given 43 = .ok (.iload 5, 2) := by decide +kernel
theorem dX13_given_45 : decode cX13_given 45 = .ok (.aload_n 0, 1) := by decide +kernel
theorem dX13_given_46 : decode cX13_given 46 = .ok (.getfield 528, 3) := by decide +kernel
theorem dX13_given_49 : decode cX13_given 49 = .ok (.iconst 1, 1) := by decide +kernel
theorem dX13_given_50 : decode cX13_given 50 = .ok (.iadd, 1) := by decide +kernel
theorem dX13_given_51 : decode cX13_given 51 = .ok (.irem, 1) := by decide +kernel
theorem dX13_given_52 : decode cX13_given 52 = .ok (.aload_n 0, 1) := by decide +kernel
theorem dX13_given_53 : decode cX13_given 53 = .ok (.getfield 528, 3) := by decide +kernel
theorem dX13_given_56 : decode cX13_given 56 = .ok (.if_icmp .ne 7, 3) := by decide +kernel
theorem dX13_given_59 : decode cX13_given 59 = .ok (.iconst (-1), 1) := by decide +kernel
theorem dX13_given_60 : decode cX13_given 60 = .ok (.goto 17, 3) := by decide +kernel
theorem dX13_given_63 : decode cX13_given 63 = .ok (.aload_n 0, 1) := by decide +kernel
theorem dX13_given_64 : decode cX13_given 64 = .ok (.getfield 225, 3) := by decide +kernel
theorem dX13_given_67 : decode cX13_given 67 = .ok (.iload 5, 2) := by decide +kernel
theorem dX13_given_69 : decode cX13_given 69 = .ok (.aload_n 0, 1) := by decide +kernel
theorem dX13_given_70 : decode cX13_given 70 = .ok (.getfield 528, 3) := by decide +kernel
theorem dX13_given_73 : decode cX13_given 73 = .ok (.iconst 1, 1) := by decide +kernel
theorem dX13_given_74 : decode cX13_given 74 = .ok (.iadd, 1) := by decide +kernel
theorem dX13_given_75 : decode cX13_given 75 = .ok (.irem, 1) := by decide +kernel
theorem dX13_given_76 : decode cX13_given 76 = .ok (.iaload, 1) := by decide +kernel
theorem dX13_given_77 : decode cX13_given 77 = .ok (.ireturn, 1) := by decide +kernel
theorem dX13_given_78 : decode cX13_given 78 = .ok (.iload 5, 2) := by decide +kernel
theorem dX13_given_80 : decode cX13_given 80 = .ok (.aload_n 0, 1) := by decide +kernel
theorem dX13_given_81 : decode cX13_given 81 = .ok (.getfield 528, 3) := by decide +kernel
theorem dX13_given_84 : decode cX13_given 84 = .ok (.iconst 1, 1) := by decide +kernel
theorem dX13_given_85 : decode cX13_given 85 = .ok (.iadd, 1) := by decide +kernel
theorem dX13_given_86 : decode cX13_given 86 = .ok (.idiv, 1) := by decide +kernel
theorem dX13_given_87 : decode cX13_given 87 = .ok (.istore 5, 2) := by decide +kernel
theorem dX13_given_89 : decode cX13_given 89 = .ok (.iinc 6 (-1), 3) := by decide +kernel
theorem dX13_given_92 : decode cX13_given 92 = .ok (.goto (-66), 3) := by decide +kernel
theorem dX13_given_95 : decode cX13_given 95 = .ok (.iconst (-1), 1) := by decide +kernel
theorem dX13_given_96 : decode cX13_given 96 = .ok (.ireturn, 1) := by decide +kernel
theorem dX13_index_0 : decode cX13_index 0 = .ok (.iload_n 2, 1) := by decide +kernel
theorem dX13_index_1 : decode cX13_index 1 = .ok (.invokestatic 377, 3) := by decide +kernel
theorem dX13_index_4 : decode cX13_index 4 = .ok (.ifCond .eq 16, 3) := by decide +kernel
theorem dX13_index_7 : decode cX13_index 7 = .ok (.aload_n 0, 1) := by decide +kernel
theorem dX13_index_8 : decode cX13_index 8 = .ok (.getfield 68, 3) := by decide +kernel
theorem dX13_index_11 : decode cX13_index 11 = .ok (.iload_n 2, 1) := by decide +kernel
theorem dX13_index_12 : decode cX13_index 12 = .ok (.baload, 1) := by decide +kernel
theorem dX13_index_13 : decode cX13_index 13 = .ok (.ifCond .eq 7, 3) := by decide +kernel
theorem dX13_index_16 : decode cX13_index 16 = .ok (.iload_n 3, 1) := by decide +kernel
theorem dX13_index_17 : decode cX13_index 17 = .ok (.ifCond .ge 5, 3) := by decide +kernel
theorem dX13_index_20 : decode cX13_index 20 = .ok (.iconst (-1), 1) := by decide +kernel
theorem dX13_index_21 : decode cX13_index 21 = .ok (.ireturn, 1) := by decide +kernel
theorem dX13_index_22 : decode cX13_index 22 = .ok (.iload_n 3, 1) := by decide +kernel
theorem dX13_index_23 : decode cX13_index 23 = .ok (.istore 4, 2) := by decide +kernel
theorem dX13_index_25 : decode cX13_index 25 = .ok (.aload_n 0, 1) := by decide +kernel
theorem dX13_index_26 : decode cX13_index 26 = .ok (.getfield 81, 3) := by decide +kernel
theorem dX13_index_29 : decode cX13_index 29 = .ok (.iload_n 2, 1) := by decide +kernel
theorem dX13_index_30 : decode cX13_index 30 = .ok (.iaload, 1) := by decide +kernel
theorem dX13_index_31 : decode cX13_index 31 = .ok (.bipush 40, 2) := by decide +kernel
theorem dX13_index_33 : decode cX13_index 33 = .ok (.iadd, 1) := by decide +kernel
theorem dX13_index_34 : decode cX13_index 34 = .ok (.iconst 1, 1) := by decide +kernel
theorem dX13_index_35 : decode cX13_index 35 = .ok (.isub, 1) := by decide +kernel
theorem dX13_index_36 : decode cX13_index 36 = .ok (.bipush 40, 2) := by decide +kernel
theorem dX13_index_38 : decode cX13_index 38 = .ok (.idiv, 1) := by decide +kernel
theorem dX13_index_39 : decode cX13_index 39 = .ok (.istore 5, 2) := by decide +kernel
theorem dX13_index_41 : decode cX13_index 41 = .ok (.iconst 1, 1) := by decide +kernel
theorem dX13_index_42 : decode cX13_index 42 = .ok (.istore 6, 2) := by decide +kernel
theorem dX13_index_44 : decode cX13_index 44 = .ok (.iload 6, 2) := by decide +kernel
theorem dX13_index_46 : decode cX13_index 46 = .ok (.iload 5, 2) := by decide +kernel
theorem dX13_index_48 : decode cX13_index 48 = .ok (.if_icmp .gt 100, 3) := by decide +kernel
theorem dX13_index_51 : decode cX13_index 51 = .ok (.iconst 0, 1) := by decide +kernel
theorem dX13_index_52 : decode cX13_index 52 = .ok (.istore 7, 2) := by decide +kernel
theorem dX13_index_54 : decode cX13_index 54 = .ok (.iconst 0, 1) := by decide +kernel
theorem dX13_index_55 : decode cX13_index 55 = .ok (.istore 8, 2) := by decide +kernel
theorem dX13_index_57 : decode cX13_index 57 = .ok (.iload 8, 2) := by decide +kernel
theorem dX13_index_59 : decode cX13_index 59 = .ok (.aload_n 0, 1) := by decide +kernel
theorem dX13_index_60 : decode cX13_index 60 = .ok (.getfield 452, 3) := by decide +kernel
theorem dX13_index_63 : decode cX13_index 63 = .ok (.if_icmp .ge 60, 3) := by decide +kernel
theorem dX13_index_66 : decode cX13_index 66 = .ok (.iload 7, 2) := by decide +kernel
theorem dX13_index_68 : decode cX13_index 68 = .ok (.ifCond .ne 55, 3) := by decide +kernel
theorem dX13_index_71 : decode cX13_index 71 = .ok (.aload_n 0, 1) := by decide +kernel
theorem dX13_index_72 : decode cX13_index 72 = .ok (.getfield 114, 3) := by decide +kernel
theorem dX13_index_75 : decode cX13_index 75 = .ok (.aload_n 0, 1) := by decide +kernel
theorem dX13_index_76 : decode cX13_index 76 = .ok (.getfield 135, 3) := by decide +kernel
theorem dX13_index_79 : decode cX13_index 79 = .ok (.iload 8, 2) := by decide +kernel
theorem dX13_index_81 : decode cX13_index 81 = .ok (.iaload, 1) := by decide +kernel
theorem dX13_index_82 : decode cX13_index 82 = .ok (.iaload, 1) := by decide +kernel
theorem dX13_index_83 : decode cX13_index 83 = .ok (.iload_n 2, 1) := by decide +kernel
theorem dX13_index_84 : decode cX13_index 84 = .ok (.if_icmp .ne 30, 3) := by decide +kernel
theorem dX13_index_87 : decode cX13_index 87 = .ok (.aload_n 0, 1) := by decide +kernel
theorem dX13_index_88 : decode cX13_index 88 = .ok (.getfield 156, 3) := by decide +kernel
theorem dX13_index_91 : decode cX13_index 91 = .ok (.iload 8, 2) := by decide +kernel
theorem dX13_index_93 : decode cX13_index 93 = .ok (.iaload, 1) := by decide +kernel
theorem dX13_index_94 : decode cX13_index 94 = .ok (.iload 6, 2) := by decide +kernel
theorem dX13_index_96 : decode cX13_index 96 = .ok (.if_icmp .ne 18, 3) := by decide +kernel
theorem dX13_index_99 : decode cX13_index 99 = .ok (.aload_n 0, 1) := by decide +kernel
theorem dX13_index_100 : decode cX13_index 100 = .ok (.getfield 150, 3) := by decide +kernel
theorem dX13_index_103 : decode cX13_index 103 = .ok (.iload 8, 2) := by decide +kernel
theorem dX13_index_105 : decode cX13_index 105 = .ok (.iaload, 1) := by decide +kernel
theorem dX13_index_106 : decode cX13_index 106 = .ok (.iload_n 1, 1) := by decide +kernel
theorem dX13_index_107 : decode cX13_index 107 = .ok (.if_icmp .ne 7, 3) := by decide +kernel
theorem dX13_index_110 : decode cX13_index 110 = .ok (.iconst 1, 1) := by decide +kernel
theorem dX13_index_111 : decode cX13_index 111 = .ok (.goto 4, 3) := by decide +kernel
theorem dX13_index_114 : decode cX13_index 114 = .ok (.iconst 0, 1) := by decide +kernel
theorem dX13_index_115 : decode cX13_index 115 = .ok (.istore 7, 2) := by decide +kernel
theorem dX13_index_117 : decode cX13_index 117 = .ok (.iinc 8 1, 3) := by decide +kernel
theorem dX13_index_120 : decode cX13_index 120 = .ok (.goto (-63), 3) := by decide +kernel
theorem dX13_index_123 : decode cX13_index 123 = .ok (.iload 7, 2) := by decide +kernel
theorem dX13_index_125 : decode cX13_index 125 = .ok (.ifCond .ne 6, 3) := by decide +kernel
theorem dX13_index_128 : decode cX13_index 128 = .ok (.goto 14, 3) := by decide +kernel
theorem dX13_index_131 : decode cX13_index 131 = .ok (.iload 4, 2) := by decide +kernel
theorem dX13_index_133 : decode cX13_index 133 = .ok (.ifCond .ne 6, 3) := by decide +kernel
theorem dX13_index_136 : decode cX13_index 136 = .ok (.iload 6, 2) := by decide +kernel
theorem dX13_index_138 : decode cX13_index 138 = .ok (.ireturn, 1) := by decide +kernel
theorem dX13_index_139 : decode cX13_index 139 = .ok (.iinc 4 (-1), 3) := by decide +kernel
theorem dX13_index_142 : decode cX13_index 142 = .ok (.iinc 6 1, 3) := by decide +kernel
theorem dX13_index_145 : decode cX13_index 145 = .ok (.goto (-101), 3) := by decide +kernel
theorem dX13_index_148 : decode cX13_index 148 = .ok (.iconst (-1), 1) := by decide +kernel
theorem dX13_index_149 : decode cX13_index 149 = .ok (.ireturn, 1) := by decide +kernel
theorem dX13_steal_0 : decode cX13_steal 0 = .ok (.iload_n 1, 1) := by decide +kernel
theorem dX13_steal_1 : decode cX13_steal 1 = .ok (.iconst 0, 1) := by decide +kernel
theorem dX13_steal_2 : decode cX13_steal 2 = .ok (.sipush 999, 3) := by decide +kernel
theorem dX13_steal_5 : decode cX13_steal 5 = .ok (.invokestatic 256, 3) := by decide +kernel
theorem dX13_steal_8 : decode cX13_steal 8 = .ok (.ifCond .eq 12, 3) := by decide +kernel
theorem dX13_steal_11 : decode cX13_steal 11 = .ok (.aload_n 0, 1) := by decide +kernel
theorem dX13_steal_12 : decode cX13_steal 12 = .ok (.getfield 546, 3) := by decide +kernel
theorem dX13_steal_15 : decode cX13_steal 15 = .ok (.bipush 30, 2) := by decide +kernel
theorem dX13_steal_17 : decode cX13_steal 17 = .ok (.if_icmp .ne 5, 3) := by decide +kernel
theorem dX13_steal_20 : decode cX13_steal 20 = .ok (.iconst (-1), 1) := by decide +kernel
theorem dX13_steal_21 : decode cX13_steal 21 = .ok (.ireturn, 1) := by decide +kernel
theorem dX13_steal_22 : decode cX13_steal 22 = .ok (.aload_n 0, 1) := by decide +kernel
theorem dX13_steal_23 : decode cX13_steal 23 = .ok (.getfield 192, 3) := by decide +kernel
theorem dX13_steal_26 : decode cX13_steal 26 = .ok (.aload_n 0, 1) := by decide +kernel
theorem dX13_steal_27 : decode cX13_steal 27 = .ok (.getfield 546, 3) := by decide +kernel
theorem dX13_steal_30 : decode cX13_steal 30 = .ok (.iload_n 1, 1) := by decide +kernel
theorem dX13_steal_31 : decode cX13_steal 31 = .ok (.iastore, 1) := by decide +kernel
theorem dX13_steal_32 : decode cX13_steal 32 = .ok (.aload_n 0, 1) := by decide +kernel
theorem dX13_steal_33 : decode cX13_steal 33 = .ok (.dup, 1) := by decide +kernel
theorem dX13_steal_34 : decode cX13_steal 34 = .ok (.getfield 546, 3) := by decide +kernel
theorem dX13_steal_37 : decode cX13_steal 37 = .ok (.iconst 1, 1) := by decide +kernel
theorem dX13_steal_38 : decode cX13_steal 38 = .ok (.iadd, 1) := by decide +kernel
theorem dX13_steal_39 : decode cX13_steal 39 = .ok (.putfield 546, 3) := by decide +kernel
theorem dX13_steal_42 : decode cX13_steal 42 = .ok (.aload_n 0, 1) := by decide +kernel
theorem dX13_steal_43 : decode cX13_steal 43 = .ok (.getfield 546, 3) := by decide +kernel
theorem dX13_steal_46 : decode cX13_steal 46 = .ok (.ireturn, 1) := by decide +kernel
theorem dX13_forget_0 : decode cX13_forget 0 = .ok (.aload_n 0, 1) := by decide +kernel
theorem dX13_forget_1 : decode cX13_forget 1 = .ok (.getfield 546, 3) := by decide +kernel
theorem dX13_forget_4 : decode cX13_forget 4 = .ok (.istore_n 1, 1) := by decide +kernel
theorem dX13_forget_5 : decode cX13_forget 5 = .ok (.aload_n 0, 1) := by decide +kernel
theorem dX13_forget_6 : decode cX13_forget 6 = .ok (.iconst 0, 1) := by decide +kernel
theorem dX13_forget_7 : decode cX13_forget 7 = .ok (.putfield 546, 3) := by decide +kernel
theorem dX13_forget_10 : decode cX13_forget 10 = .ok (.iload_n 1, 1) := by decide +kernel
theorem dX13_forget_11 : decode cX13_forget 11 = .ok (.ireturn, 1) := by decide +kernel
theorem dX13_thief_0 : decode cX13_thief 0 = .ok (.iload_n 1, 1) := by decide +kernel
theorem dX13_thief_1 : decode cX13_thief 1 = .ok (.invokestatic 377, 3) := by decide +kernel
theorem dX13_thief_4 : decode cX13_thief 4 = .ok (.ifCond .eq 21, 3) := by decide +kernel
theorem dX13_thief_7 : decode cX13_thief 7 = .ok (.aload_n 0, 1) := by decide +kernel
theorem dX13_thief_8 : decode cX13_thief 8 = .ok (.getfield 68, 3) := by decide +kernel
theorem dX13_thief_11 : decode cX13_thief 11 = .ok (.iload_n 1, 1) := by decide +kernel
theorem dX13_thief_12 : decode cX13_thief 12 = .ok (.baload, 1) := by decide +kernel
theorem dX13_thief_13 : decode cX13_thief 13 = .ok (.ifCond .eq 12, 3) := by decide +kernel
theorem dX13_thief_16 : decode cX13_thief 16 = .ok (.iload_n 2, 1) := by decide +kernel
theorem dX13_thief_17 : decode cX13_thief 17 = .ok (.iconst 0, 1) := by decide +kernel
theorem dX13_thief_18 : decode cX13_thief 18 = .ok (.iconst 1, 1) := by decide +kernel
theorem dX13_thief_19 : decode cX13_thief 19 = .ok (.invokestatic 256, 3) := by decide +kernel
theorem dX13_thief_22 : decode cX13_thief 22 = .ok (.ifCond .ne 5, 3) := by decide +kernel
theorem dX13_thief_25 : decode cX13_thief 25 = .ok (.iconst (-1), 1) := by decide +kernel
theorem dX13_thief_26 : decode cX13_thief 26 = .ok (.ireturn, 1) := by decide +kernel
theorem dX13_thief_27 : decode cX13_thief 27 = .ok (.iconst 0, 1) := by decide +kernel
theorem dX13_thief_28 : decode cX13_thief 28 = .ok (.istore_n 3, 1) := by decide +kernel
theorem dX13_thief_29 : decode cX13_thief 29 = .ok (.iconst 0, 1) := by decide +kernel
theorem dX13_thief_30 : decode cX13_thief 30 = .ok (.istore 4, 2) := by decide +kernel
theorem dX13_thief_32 : decode cX13_thief 32 = .ok (.iload 4, 2) := by decide +kernel
theorem dX13_thief_34 : decode cX13_thief 34 = .ok (.aload_n 0, 1) := by decide +kernel
theorem dX13_thief_35 : decode cX13_thief 35 = .ok (.getfield 452, 3) := by decide +kernel
theorem dX13_thief_38 : decode cX13_thief 38 = .ok (.if_icmp .ge 91, 3) := by decide +kernel
theorem dX13_thief_41 : decode cX13_thief 41 = .ok (.iconst 0, 1) := by decide +kernel
theorem dX13_thief_42 : decode cX13_thief 42 = .ok (.istore 5, 2) := by decide +kernel
theorem dX13_thief_44 : decode cX13_thief 44 = .ok (.iload 5, 2) := by decide +kernel
theorem dX13_thief_46 : decode cX13_thief 46 = .ok (.aload_n 0, 1) := by decide +kernel
theorem dX13_thief_47 : decode cX13_thief 47 = .ok (.getfield 452, 3) := by decide +kernel
theorem dX13_thief_50 : decode cX13_thief 50 = .ok (.if_icmp .ge 73, 3) := by decide +kernel
theorem dX13_thief_53 : decode cX13_thief 53 = .ok (.aload_n 0, 1) := by decide +kernel
theorem dX13_thief_54 : decode cX13_thief 54 = .ok (.getfield 114, 3) := by decide +kernel
theorem dX13_thief_57 : decode cX13_thief 57 = .ok (.aload_n 0, 1) := by decide +kernel
theorem dX13_thief_58 : decode cX13_thief 58 = .ok (.getfield 135, 3) := by decide +kernel
theorem dX13_thief_61 : decode cX13_thief 61 = .ok (.iload 5, 2) := by decide +kernel
theorem dX13_thief_63 : decode cX13_thief 63 = .ok (.iaload, 1) := by decide +kernel
theorem dX13_thief_64 : decode cX13_thief 64 = .ok (.iaload, 1) := by decide +kernel
theorem dX13_thief_65 : decode cX13_thief 65 = .ok (.iload_n 1, 1) := by decide +kernel
theorem dX13_thief_66 : decode cX13_thief 66 = .ok (.if_icmp .ne 51, 3) := by decide +kernel
theorem dX13_thief_69 : decode cX13_thief 69 = .ok (.aload_n 0, 1) := by decide +kernel
theorem dX13_thief_70 : decode cX13_thief 70 = .ok (.getfield 156, 3) := by decide +kernel
theorem dX13_thief_73 : decode cX13_thief 73 = .ok (.iload 5, 2) := by decide +kernel
theorem dX13_thief_75 : decode cX13_thief 75 = .ok (.iaload, 1) := by decide +kernel
theorem dX13_thief_76 : decode cX13_thief 76 = .ok (.iconst (-1), 1) := by decide +kernel
theorem dX13_thief_77 : decode cX13_thief 77 = .ok (.if_icmp .eq 40, 3) := by decide +kernel
theorem dX13_thief_80 : decode cX13_thief 80 = .ok (.aload_n 0, 1) := by decide +kernel
theorem dX13_thief_81 : decode cX13_thief 81 = .ok (.getfield 159, 3) := by decide +kernel
theorem dX13_thief_84 : decode cX13_thief 84 = .ok (.iload 5, 2) := by decide +kernel
theorem dX13_thief_86 : decode cX13_thief 86 = .ok (.iaload, 1) := by decide +kernel
theorem dX13_thief_87 : decode cX13_thief 87 = .ok (.iload 4, 2) := by decide +kernel
theorem dX13_thief_89 : decode cX13_thief 89 = .ok (.if_icmp .ne 28, 3) := by decide +kernel
theorem dX13_thief_92 : decode cX13_thief 92 = .ok (.aload_n 0, 1) := by decide +kernel
theorem dX13_thief_93 : decode cX13_thief 93 = .ok (.getfield 141, 3) := by decide +kernel
theorem dX13_thief_96 : decode cX13_thief 96 = .ok (.iload 5, 2) := by decide +kernel
theorem dX13_thief_98 : decode cX13_thief 98 = .ok (.iaload, 1) := by decide +kernel
theorem dX13_thief_99 : decode cX13_thief 99 = .ok (.iconst (-1), 1) := by decide +kernel
theorem dX13_thief_100 : decode cX13_thief 100 = .ok (.if_icmp .ne 6, 3) := by decide +kernel
theorem dX13_thief_103 : decode cX13_thief 103 = .ok (.goto 14, 3) := by decide +kernel
theorem dX13_thief_106 : decode cX13_thief 106 = .ok (.aload_n 0, 1) := by decide +kernel
theorem dX13_thief_107 : decode cX13_thief 107 = .ok (.getfield 237, 3) := by decide +kernel
theorem dX13_thief_110 : decode cX13_thief 110 = .ok (.iload_n 3, 1) := by decide +kernel
theorem dX13_thief_111 : decode cX13_thief 111 = .ok (.iload 5, 2) := by decide +kernel
theorem dX13_thief_113 : decode cX13_thief 113 = .ok (.iastore, 1) := by decide +kernel
theorem dX13_thief_114 : decode cX13_thief 114 = .ok (.iinc 3 1, 3) := by decide +kernel
theorem dX13_thief_117 : decode cX13_thief 117 = .ok (.iinc 5 1, 3) := by decide +kernel
theorem dX13_thief_120 : decode cX13_thief 120 = .ok (.goto (-76), 3) := by decide +kernel
theorem dX13_thief_123 : decode cX13_thief 123 = .ok (.iinc 4 1, 3) := by decide +kernel
theorem dX13_thief_126 : decode cX13_thief 126 = .ok (.goto (-94), 3) := by decide +kernel
theorem dX13_thief_129 : decode cX13_thief 129 = .ok (.sipush 301, 3) := by decide +kernel
theorem dX13_thief_132 : decode cX13_thief 132 = .ok (.istore 4, 2) := by decide +kernel
theorem dX13_thief_134 : decode cX13_thief 134 = .ok (.iconst 0, 1) := by decide +kernel
theorem dX13_thief_135 : decode cX13_thief 135 = .ok (.istore 5, 2) := by decide +kernel
theorem dX13_thief_137 : decode cX13_thief 137 = .ok (.iload 5, 2) := by decide +kernel
theorem dX13_thief_139 : decode cX13_thief 139 = .ok (.aload_n 0, 1) := by decide +kernel
theorem dX13_thief_140 : decode cX13_thief 140 = .ok (.getfield 546, 3) := by decide +kernel
theorem dX13_thief_143 : decode cX13_thief 143 = .ok (.if_icmp .gt 76, 3) := by decide +kernel
theorem dX13_thief_146 : decode cX13_thief 146 = .ok (.iconst 0, 1) := by decide +kernel
theorem dX13_thief_147 : decode cX13_thief 147 = .ok (.istore 6, 2) := by decide +kernel
theorem dX13_thief_149 : decode cX13_thief 149 = .ok (.iload 6, 2) := by decide +kernel
theorem dX13_thief_151 : decode cX13_thief 151 = .ok (.iload_n 3, 1) := by decide +kernel
theorem dX13_thief_152 : decode cX13_thief 152 = .ok (.if_icmp .gt 61, 3) := by decide +kernel
theorem dX13_thief_155 : decode cX13_thief 155 = .ok (.iload 4, 2) := by decide +kernel
theorem dX13_thief_157 : decode cX13_thief 157 = .ok (.iload 5, 2) := by decide +kernel
theorem dX13_thief_159 : decode cX13_thief 159 = .ok (.imul, 1) := by decide +kernel
theorem dX13_thief_160 : decode cX13_thief 160 = .ok (.iload 6, 2) := by decide +kernel
theorem dX13_thief_162 : decode cX13_thief 162 = .ok (.iadd, 1) := by decide +kernel
theorem dX13_thief_163 : decode cX13_thief 163 = .ok (.istore 7, 2) := by decide +kernel
theorem dX13_thief_165 : decode cX13_thief 165 = .ok (.aload_n 0, 1) := by decide +kernel
theorem dX13_thief_166 : decode cX13_thief 166 = .ok (.getfield 240, 3) := by decide +kernel
theorem dX13_thief_169 : decode cX13_thief 169 = .ok (.iload 7, 2) := by decide +kernel
theorem dX13_thief_171 : decode cX13_thief 171 = .ok (.iload 5, 2) := by decide +kernel
theorem dX13_thief_173 : decode cX13_thief 173 = .ok (.iload 6, 2) := by decide +kernel
theorem dX13_thief_175 : decode cX13_thief 175 = .ok (.iadd, 1) := by decide +kernel
theorem dX13_thief_176 : decode cX13_thief 176 = .ok (.iastore, 1) := by decide +kernel
theorem dX13_thief_177 : decode cX13_thief 177 = .ok (.aload_n 0, 1) := by decide +kernel
theorem dX13_thief_178 : decode cX13_thief 178 = .ok (.getfield 243, 3) := by decide +kernel
theorem dX13_thief_181 : decode cX13_thief 181 = .ok (.iload 7, 2) := by decide +kernel
theorem dX13_thief_183 : decode cX13_thief 183 = .ok (.iconst 0, 1) := by decide +kernel
theorem dX13_thief_184 : decode cX13_thief 184 = .ok (.iastore, 1) := by decide +kernel
theorem dX13_thief_185 : decode cX13_thief 185 = .ok (.iload 5, 2) := by decide +kernel
theorem dX13_thief_187 : decode cX13_thief 187 = .ok (.ifCond .le 20, 3) := by decide +kernel
theorem dX13_thief_190 : decode cX13_thief 190 = .ok (.iload 6, 2) := by decide +kernel
theorem dX13_thief_192 : decode cX13_thief 192 = .ok (.ifCond .le 15, 3) := by decide +kernel
theorem dX13_thief_195 : decode cX13_thief 195 = .ok (.aload_n 0, 1) := by decide +kernel
theorem dX13_thief_196 : decode cX13_thief 196 = .ok (.iload 7, 2) := by decide +kernel
theorem dX13_thief_198 : decode cX13_thief 198 = .ok (.iload 4, 2) := by decide +kernel
theorem dX13_thief_200 : decode cX13_thief 200 = .ok (.iload 5, 2) := by decide +kernel
theorem dX13_thief_202 : decode cX13_thief 202 = .ok (.iload 6, 2) := by decide +kernel
theorem dX13_thief_204 : decode cX13_thief 204 = .ok (.invokevirtual 549, 3) := by decide +kernel
theorem dX13_thief_207 : decode cX13_thief 207 = .ok (.iinc 6 1, 3) := by decide +kernel
theorem dX13_thief_210 : decode cX13_thief 210 = .ok (.goto (-61), 3) := by decide +kernel
theorem dX13_thief_213 : decode cX13_thief 213 = .ok (.iinc 5 1, 3) := by decide +kernel
theorem dX13_thief_216 : decode cX13_thief 216 = .ok (.goto (-79), 3) := by decide +kernel
theorem dX13_thief_219 : decode cX13_thief 219 = .ok (.iload_n 2, 1) := by decide +kernel
theorem dX13_thief_220 : decode cX13_thief 220 = .ok (.ifCond .ne 20, 3) := by decide +kernel
theorem dX13_thief_223 : decode cX13_thief 223 = .ok (.aload_n 0, 1) := by decide +kernel
theorem dX13_thief_224 : decode cX13_thief 224 = .ok (.getfield 240, 3) := by decide +kernel
theorem dX13_thief_227 : decode cX13_thief 227 = .ok (.iload 4, 2) := by decide +kernel
theorem dX13_thief_229 : decode cX13_thief 229 = .ok (.aload_n 0, 1) := by decide +kernel
theorem dX13_thief_230 : decode cX13_thief 230 = .ok (.getfield 546, 3) := by decide +kernel
theorem dX13_thief_233 : decode cX13_thief 233 = .ok (.imul, 1) := by decide +kernel
theorem dX13_thief_234 : decode cX13_thief 234 = .ok (.iload_n 3, 1) := by decide +kernel
theorem dX13_thief_235 : decode cX13_thief 235 = .ok (.iadd, 1) := by decide +kernel
theorem dX13_thief_236 : decode cX13_thief 236 = .ok (.iaload, 1) := by decide +kernel
theorem dX13_thief_237 : decode cX13_thief 237 = .ok (.goto 17, 3) := by decide +kernel
theorem dX13_thief_240 : decode cX13_thief 240 = .ok (.aload_n 0, 1) := by decide +kernel
theorem dX13_thief_241 : decode cX13_thief 241 = .ok (.getfield 243, 3) := by decide +kernel
theorem dX13_thief_244 : decode cX13_thief 244 = .ok (.iload 4, 2) := by decide +kernel
theorem dX13_thief_246 : decode cX13_thief 246 = .ok (.aload_n 0, 1) := by decide +kernel
theorem dX13_thief_247 : decode cX13_thief 247 = .ok (.getfield 546, 3) := by decide +kernel
theorem dX13_thief_250 : decode cX13_thief 250 = .ok (.imul, 1) := by decide +kernel
theorem dX13_thief_251 : decode cX13_thief 251 = .ok (.iload_n 3, 1) := by decide +kernel
theorem dX13_thief_252 : decode cX13_thief 252 = .ok (.iadd, 1) := by decide +kernel
theorem dX13_thief_253 : decode cX13_thief 253 = .ok (.iaload, 1) := by decide +kernel
theorem dX13_thief_254 : decode cX13_thief 254 = .ok (.ireturn, 1) := by decide +kernel
theorem dX13_laysOn_0 : decode cX13_laysOn 0 = .ok (.aload_n 0, 1) := by decide +kernel
theorem dX13_laysOn_1 : decode cX13_laysOn 1 = .ok (.getfield 237, 3) := by decide +kernel
theorem dX13_laysOn_4 : decode cX13_laysOn 4 = .ok (.iload 4, 2) := by decide +kernel
theorem dX13_laysOn_6 : decode cX13_laysOn 6 = .ok (.iconst 1, 1) := by decide +kernel
theorem dX13_laysOn_7 : decode cX13_laysOn 7 = .ok (.isub, 1) := by decide +kernel
theorem dX13_laysOn_8 : decode cX13_laysOn 8 = .ok (.iaload, 1) := by decide +kernel
theorem dX13_laysOn_9 : decode cX13_laysOn 9 = .ok (.istore 5, 2) := by decide +kernel
theorem dX13_laysOn_11 : decode cX13_laysOn 11 = .ok (.aload_n 0, 1) := by decide +kernel
theorem dX13_laysOn_12 : decode cX13_laysOn 12 = .ok (.getfield 192, 3) := by decide +kernel
theorem dX13_laysOn_15 : decode cX13_laysOn 15 = .ok (.iload_n 3, 1) := by decide +kernel
theorem dX13_laysOn_16 : decode cX13_laysOn 16 = .ok (.iconst 1, 1) := by decide +kernel
theorem dX13_laysOn_17 : decode cX13_laysOn 17 = .ok (.isub, 1) := by decide +kernel
theorem dX13_laysOn_18 : decode cX13_laysOn 18 = .ok (.iaload, 1) := by decide +kernel
theorem dX13_laysOn_19 : decode cX13_laysOn 19 = .ok (.aload_n 0, 1) := by decide +kernel
theorem dX13_laysOn_20 : decode cX13_laysOn 20 = .ok (.getfield 147, 3) := by decide +kernel
theorem dX13_laysOn_23 : decode cX13_laysOn 23 = .ok (.iload 5, 2) := by decide +kernel
theorem dX13_laysOn_25 : decode cX13_laysOn 25 = .ok (.iaload, 1) := by decide +kernel
theorem dX13_laysOn_26 : decode cX13_laysOn 26 = .ok (.if_icmp .ne 7, 3) := by decide +kernel
theorem dX13_laysOn_29 : decode cX13_laysOn 29 = .ok (.iconst 1, 1) := by decide +kernel
theorem dX13_laysOn_30 : decode cX13_laysOn 30 = .ok (.goto 4, 3) := by decide +kernel
theorem dX13_laysOn_33 : decode cX13_laysOn 33 = .ok (.iconst 0, 1) := by decide +kernel
theorem dX13_laysOn_34 : decode cX13_laysOn 34 = .ok (.istore 6, 2) := by decide +kernel
theorem dX13_laysOn_36 : decode cX13_laysOn 36 = .ok (.aload_n 0, 1) := by decide +kernel
theorem dX13_laysOn_37 : decode cX13_laysOn 37 = .ok (.aload_n 0, 1) := by decide +kernel
theorem dX13_laysOn_38 : decode cX13_laysOn 38 = .ok (.getfield 141, 3) := by decide +kernel
theorem dX13_laysOn_41 : decode cX13_laysOn 41 = .ok (.iload 5, 2) := by decide +kernel
theorem dX13_laysOn_43 : decode cX13_laysOn 43 = .ok (.iaload, 1) := by decide +kernel
theorem dX13_laysOn_44 : decode cX13_laysOn 44 = .ok (.aload_n 0, 1) := by decide +kernel
theorem dX13_laysOn_45 : decode cX13_laysOn 45 = .ok (.getfield 383, 3) := by decide +kernel
theorem dX13_laysOn_48 : decode cX13_laysOn 48 = .ok (.invokevirtual 482, 3) := by decide +kernel
theorem dX13_laysOn_51 : decode cX13_laysOn 51 = .ok (.aload_n 0, 1) := by decide +kernel
theorem dX13_laysOn_52 : decode cX13_laysOn 52 = .ok (.getfield 147, 3) := by decide +kernel
theorem dX13_laysOn_55 : decode cX13_laysOn 55 = .ok (.iload 5, 2) := by decide +kernel
theorem dX13_laysOn_57 : decode cX13_laysOn 57 = .ok (.iaload, 1) := by decide +kernel
theorem dX13_laysOn_58 : decode cX13_laysOn 58 = .ok (.if_icmp .eq 7, 3) := by decide +kernel
theorem dX13_laysOn_61 : decode cX13_laysOn 61 = .ok (.iconst 1, 1) := by decide +kernel
theorem dX13_laysOn_62 : decode cX13_laysOn 62 = .ok (.goto 4, 3) := by decide +kernel
theorem dX13_laysOn_65 : decode cX13_laysOn 65 = .ok (.iconst 0, 1) := by decide +kernel
theorem dX13_laysOn_66 : decode cX13_laysOn 66 = .ok (.istore 7, 2) := by decide +kernel
theorem dX13_laysOn_68 : decode cX13_laysOn 68 = .ok (.aload_n 0, 1) := by decide +kernel
theorem dX13_laysOn_69 : decode cX13_laysOn 69 = .ok (.getfield 240, 3) := by decide +kernel
theorem dX13_laysOn_72 : decode cX13_laysOn 72 = .ok (.iload_n 1, 1) := by decide +kernel
theorem dX13_laysOn_73 : decode cX13_laysOn 73 = .ok (.aload_n 0, 1) := by decide +kernel
theorem dX13_laysOn_74 : decode cX13_laysOn 74 = .ok (.getfield 240, 3) := by decide +kernel
theorem dX13_laysOn_77 : decode cX13_laysOn 77 = .ok (.iload_n 1, 1) := by decide +kernel
theorem dX13_laysOn_78 : decode cX13_laysOn 78 = .ok (.iload_n 2, 1) := by decide +kernel
theorem dX13_laysOn_79 : decode cX13_laysOn 79 = .ok (.isub, 1) := by decide +kernel
theorem dX13_laysOn_80 : decode cX13_laysOn 80 = .ok (.iconst 1, 1) := by decide +kernel
theorem dX13_laysOn_81 : decode cX13_laysOn 81 = .ok (.isub, 1) := by decide +kernel
theorem dX13_laysOn_82 : decode cX13_laysOn 82 = .ok (.iaload, 1) := by decide +kernel
theorem dX13_laysOn_83 : decode cX13_laysOn 83 = .ok (.iload 6, 2) := by decide +kernel
theorem dX13_laysOn_85 : decode cX13_laysOn 85 = .ok (.ifCond .eq 7, 3) := by decide +kernel
theorem dX13_laysOn_88 : decode cX13_laysOn 88 = .ok (.iconst 0, 1) := by decide +kernel
theorem dX13_laysOn_89 : decode cX13_laysOn 89 = .ok (.goto 4, 3) := by decide +kernel
theorem dX13_laysOn_92 : decode cX13_laysOn 92 = .ok (.iconst 1, 1) := by decide +kernel
theorem dX13_laysOn_93 : decode cX13_laysOn 93 = .ok (.iadd, 1) := by decide +kernel
theorem dX13_laysOn_94 : decode cX13_laysOn 94 = .ok (.iastore, 1) := by decide +kernel
theorem dX13_laysOn_95 : decode cX13_laysOn 95 = .ok (.aload_n 0, 1) := by decide +kernel
theorem dX13_laysOn_96 : decode cX13_laysOn 96 = .ok (.getfield 243, 3) := by decide +kernel
theorem dX13_laysOn_99 : decode cX13_laysOn 99 = .ok (.iload_n 1, 1) := by decide +kernel
theorem dX13_laysOn_100 : decode cX13_laysOn 100 = .ok (.aload_n 0, 1) := by decide +kernel
theorem dX13_laysOn_101 : decode cX13_laysOn 101 = .ok (.getfield 243, 3) := by decide +kernel
theorem dX13_laysOn_104 : decode cX13_laysOn 104 = .ok (.iload_n 1, 1) := by decide +kernel
theorem dX13_laysOn_105 : decode cX13_laysOn 105 = .ok (.iload_n 2, 1) := by decide +kernel
theorem dX13_laysOn_106 : decode cX13_laysOn 106 = .ok (.isub, 1) := by decide +kernel
theorem dX13_laysOn_107 : decode cX13_laysOn 107 = .ok (.iconst 1, 1) := by decide +kernel
theorem dX13_laysOn_108 : decode cX13_laysOn 108 = .ok (.isub, 1) := by decide +kernel
theorem dX13_laysOn_109 : decode cX13_laysOn 109 = .ok (.iaload, 1) := by decide +kernel
theorem dX13_laysOn_110 : decode cX13_laysOn 110 = .ok (.iload 6, 2) := by decide +kernel
theorem dX13_laysOn_112 : decode cX13_laysOn 112 = .ok (.ifCond .eq 12, 3) := by decide +kernel
theorem dX13_laysOn_115 : decode cX13_laysOn 115 = .ok (.iload 7, 2) := by decide +kernel
theorem dX13_laysOn_117 : decode cX13_laysOn 117 = .ok (.ifCond .eq 7, 3) := by decide +kernel
theorem dX13_laysOn_120 : decode cX13_laysOn 120 = .ok (.iconst 1, 1) := by decide +kernel
theorem dX13_laysOn_121 : decode cX13_laysOn 121 = .ok (.goto 4, 3) := by decide +kernel
theorem dX13_laysOn_124 : decode cX13_laysOn 124 = .ok (.iconst 0, 1) := by decide +kernel
theorem dX13_laysOn_125 : decode cX13_laysOn 125 = .ok (.iadd, 1) := by decide +kernel
theorem dX13_laysOn_126 : decode cX13_laysOn 126 = .ok (.iastore, 1) := by decide +kernel
theorem dX13_laysOn_127 : decode cX13_laysOn 127 = .ok (.aload_n 0, 1) := by decide +kernel
theorem dX13_laysOn_128 : decode cX13_laysOn 128 = .ok (.iload_n 1, 1) := by decide +kernel
theorem dX13_laysOn_129 : decode cX13_laysOn 129 = .ok (.iload_n 1, 1) := by decide +kernel
theorem dX13_laysOn_130 : decode cX13_laysOn 130 = .ok (.iconst 1, 1) := by decide +kernel
theorem dX13_laysOn_131 : decode cX13_laysOn 131 = .ok (.isub, 1) := by decide +kernel
theorem dX13_laysOn_132 : decode cX13_laysOn 132 = .ok (.invokevirtual 553, 3) := by decide +kernel
theorem dX13_laysOn_135 : decode cX13_laysOn 135 = .ok (.aload_n 0, 1) := by decide +kernel
theorem dX13_laysOn_136 : decode cX13_laysOn 136 = .ok (.iload_n 1, 1) := by decide +kernel
theorem dX13_laysOn_137 : decode cX13_laysOn 137 = .ok (.iload_n 1, 1) := by decide +kernel
theorem dX13_laysOn_138 : decode cX13_laysOn 138 = .ok (.iload_n 2, 1) := by decide +kernel
theorem dX13_laysOn_139 : decode cX13_laysOn 139 = .ok (.isub, 1) := by decide +kernel
theorem dX13_laysOn_140 : decode cX13_laysOn 140 = .ok (.invokevirtual 553, 3) := by decide +kernel
theorem dX13_laysOn_143 : decode cX13_laysOn 143 = .ok (.return_, 1) := by decide +kernel
theorem dX13_better_0 : decode cX13_better 0 = .ok (.aload_n 0, 1) := by decide +kernel
theorem dX13_better_1 : decode cX13_better 1 = .ok (.getfield 240, 3) := by decide +kernel
theorem dX13_better_4 : decode cX13_better 4 = .ok (.iload_n 2, 1) := by decide +kernel
theorem dX13_better_5 : decode cX13_better 5 = .ok (.iaload, 1) := by decide +kernel
theorem dX13_better_6 : decode cX13_better 6 = .ok (.iconst 1, 1) := by decide +kernel
theorem dX13_better_7 : decode cX13_better 7 = .ok (.iadd, 1) := by decide +kernel
theorem dX13_better_8 : decode cX13_better 8 = .ok (.aload_n 0, 1) := by decide +kernel
theorem dX13_better_9 : decode cX13_better 9 = .ok (.getfield 240, 3) := by decide +kernel
theorem dX13_better_12 : decode cX13_better 12 = .ok (.iload_n 1, 1) := by decide +kernel
theorem dX13_better_13 : decode cX13_better 13 = .ok (.iaload, 1) := by decide +kernel
theorem dX13_better_14 : decode cX13_better 14 = .ok (.if_icmp .gt 35, 3) := by decide +kernel
theorem dX13_better_17 : decode cX13_better 17 = .ok (.aload_n 0, 1) := by decide +kernel
theorem dX13_better_18 : decode cX13_better 18 = .ok (.getfield 240, 3) := by decide +kernel
theorem dX13_better_21 : decode cX13_better 21 = .ok (.iload_n 2, 1) := by decide +kernel
theorem dX13_better_22 : decode cX13_better 22 = .ok (.iaload, 1) := by decide +kernel
theorem dX13_better_23 : decode cX13_better 23 = .ok (.iconst 1, 1) := by decide +kernel
theorem dX13_better_24 : decode cX13_better 24 = .ok (.iadd, 1) := by decide +kernel
theorem dX13_better_25 : decode cX13_better 25 = .ok (.aload_n 0, 1) := by decide +kernel
theorem dX13_better_26 : decode cX13_better 26 = .ok (.getfield 240, 3) := by decide +kernel
theorem dX13_better_29 : decode cX13_better 29 = .ok (.iload_n 1, 1) := by decide +kernel
theorem dX13_better_30 : decode cX13_better 30 = .ok (.iaload, 1) := by decide +kernel
theorem dX13_better_31 : decode cX13_better 31 = .ok (.if_icmp .ne 19, 3) := by decide +kernel
theorem dX13_better_34 : decode cX13_better 34 = .ok (.aload_n 0, 1) := by decide +kernel
theorem dX13_better_35 : decode cX13_better 35 = .ok (.getfield 243, 3) := by decide +kernel
theorem dX13_better_38 : decode cX13_better 38 = .ok (.iload_n 2, 1) := by decide +kernel
theorem dX13_better_39 : decode cX13_better 39 = .ok (.iaload, 1) := by decide +kernel
theorem dX13_better_40 : decode cX13_better 40 = .ok (.aload_n 0, 1) := by decide +kernel
theorem dX13_better_41 : decode cX13_better 41 = .ok (.getfield 243, 3) := by decide +kernel
theorem dX13_better_44 : decode cX13_better 44 = .ok (.iload_n 1, 1) := by decide +kernel
theorem dX13_better_45 : decode cX13_better 45 = .ok (.iaload, 1) := by decide +kernel
theorem dX13_better_46 : decode cX13_better 46 = .ok (.if_icmp .gt 4, 3) := by decide +kernel
theorem dX13_better_49 : decode cX13_better 49 = .ok (.return_, 1) := by decide +kernel
theorem dX13_better_50 : decode cX13_better 50 = .ok (.aload_n 0, 1) := by decide +kernel
theorem dX13_better_51 : decode cX13_better 51 = .ok (.getfield 240, 3) := by decide +kernel
theorem dX13_better_54 : decode cX13_better 54 = .ok (.iload_n 1, 1) := by decide +kernel
theorem dX13_better_55 : decode cX13_better 55 = .ok (.aload_n 0, 1) := by decide +kernel
theorem dX13_better_56 : decode cX13_better 56 = .ok (.getfield 240, 3) := by decide +kernel
theorem dX13_better_59 : decode cX13_better 59 = .ok (.iload_n 2, 1) := by decide +kernel
theorem dX13_better_60 : decode cX13_better 60 = .ok (.iaload, 1) := by decide +kernel
theorem dX13_better_61 : decode cX13_better 61 = .ok (.iconst 1, 1) := by decide +kernel
theorem dX13_better_62 : decode cX13_better 62 = .ok (.iadd, 1) := by decide +kernel
theorem dX13_better_63 : decode cX13_better 63 = .ok (.iastore, 1) := by decide +kernel
theorem dX13_better_64 : decode cX13_better 64 = .ok (.aload_n 0, 1) := by decide +kernel
theorem dX13_better_65 : decode cX13_better 65 = .ok (.getfield 243, 3) := by decide +kernel
theorem dX13_better_68 : decode cX13_better 68 = .ok (.iload_n 1, 1) := by decide +kernel
theorem dX13_better_69 : decode cX13_better 69 = .ok (.aload_n 0, 1) := by decide +kernel
theorem dX13_better_70 : decode cX13_better 70 = .ok (.getfield 243, 3) := by decide +kernel
theorem dX13_better_73 : decode cX13_better 73 = .ok (.iload_n 2, 1) := by decide +kernel
theorem dX13_better_74 : decode cX13_better 74 = .ok (.iaload, 1) := by decide +kernel
theorem dX13_better_75 : decode cX13_better 75 = .ok (.iastore, 1) := by decide +kernel
theorem dX13_better_76 : decode cX13_better 76 = .ok (.return_, 1) := by decide +kernel
theorem dX13_is_0 : decode cX13_is 0 = .ok (.aload_n 0, 1) := by decide +kernel
theorem dX13_is_1 : decode cX13_is 1 = .ok (.iload_n 1, 1) := by decide +kernel
theorem dX13_is_2 : decode cX13_is 2 = .ok (.invokevirtual 421, 3) := by decide +kernel
theorem dX13_is_5 : decode cX13_is 5 = .ok (.ifCond .ne 5, 3) := by decide +kernel
theorem dX13_is_8 : decode cX13_is 8 = .ok (.iconst (-1), 1) := by decide +kernel
theorem dX13_is_9 : decode cX13_is 9 = .ok (.ireturn, 1) := by decide +kernel
theorem dX13_is_10 : decode cX13_is 10 = .ok (.iload_n 1, 1) := by decide +kernel
theorem dX13_is_11 : decode cX13_is 11 = .ok (.istore_n 3, 1) := by decide +kernel
theorem dX13_is_12 : decode cX13_is 12 = .ok (.aload_n 0, 1) := by decide +kernel
theorem dX13_is_13 : decode cX13_is 13 = .ok (.getfield 90, 3) := by decide +kernel
theorem dX13_is_16 : decode cX13_is 16 = .ok (.iload_n 3, 1) := by decide +kernel
theorem dX13_is_17 : decode cX13_is 17 = .ok (.iaload, 1) := by decide +kernel
theorem dX13_is_18 : decode cX13_is 18 = .ok (.ifCond .ne 7, 3) := by decide +kernel
theorem dX13_is_21 : decode cX13_is 21 = .ok (.iconst 1, 1) := by decide +kernel
theorem dX13_is_22 : decode cX13_is 22 = .ok (.goto 4, 3) := by decide +kernel
theorem dX13_is_25 : decode cX13_is 25 = .ok (.iconst 0, 1) := by decide +kernel
theorem dX13_is_26 : decode cX13_is 26 = .ok (.istore 4, 2) := by decide +kernel
theorem dX13_is_28 : decode cX13_is 28 = .ok (.iload_n 2, 1) := by decide +kernel
theorem dX13_is_29 : decode cX13_is 29 = .ok (.tableswitch 223 0 9 #[55, 62, 78, 94, 110, 116, 132, 155, 184, 207], 55) := by decide +kernel
theorem dX13_is_84 : decode cX13_is 84 = .ok (.aload_n 0, 1) := by decide +kernel
theorem dX13_is_85 : decode cX13_is 85 = .ok (.getfield 90, 3) := by decide +kernel
theorem dX13_is_88 : decode cX13_is 88 = .ok (.iload_n 3, 1) := by decide +kernel
theorem dX13_is_89 : decode cX13_is 89 = .ok (.iaload, 1) := by decide +kernel
theorem dX13_is_90 : decode cX13_is 90 = .ok (.ireturn, 1) := by decide +kernel
theorem dX13_is_91 : decode cX13_is 91 = .ok (.iload 4, 2) := by decide +kernel
theorem dX13_is_93 : decode cX13_is 93 = .ok (.ifCond .eq 12, 3) := by decide +kernel
theorem dX13_is_96 : decode cX13_is 96 = .ok (.aload_n 0, 1) := by decide +kernel
theorem dX13_is_97 : decode cX13_is 97 = .ok (.getfield 93, 3) := by decide +kernel
theorem dX13_is_100 : decode cX13_is 100 = .ok (.iload_n 3, 1) := by decide +kernel
theorem dX13_is_101 : decode cX13_is 101 = .ok (.iaload, 1) := by decide +kernel
theorem dX13_is_102 : decode cX13_is 102 = .ok (.goto 4, 3) := by decide +kernel
theorem dX13_is_105 : decode cX13_is 105 = .ok (.iconst (-1), 1) := by decide +kernel
theorem dX13_is_106 : decode cX13_is 106 = .ok (.ireturn, 1) := by decide +kernel
theorem dX13_is_107 : decode cX13_is 107 = .ok (.iload 4, 2) := by decide +kernel
theorem dX13_is_109 : decode cX13_is 109 = .ok (.ifCond .eq 12, 3) := by decide +kernel
theorem dX13_is_112 : decode cX13_is 112 = .ok (.aload_n 0, 1) := by decide +kernel
theorem dX13_is_113 : decode cX13_is 113 = .ok (.getfield 96, 3) := by decide +kernel
theorem dX13_is_116 : decode cX13_is 116 = .ok (.iload_n 3, 1) := by decide +kernel
theorem dX13_is_117 : decode cX13_is 117 = .ok (.iaload, 1) := by decide +kernel
theorem dX13_is_118 : decode cX13_is 118 = .ok (.goto 4, 3) := by decide +kernel
theorem dX13_is_121 : decode cX13_is 121 = .ok (.iconst (-1), 1) := by decide +kernel
theorem dX13_is_122 : decode cX13_is 122 = .ok (.ireturn, 1) := by decide +kernel
theorem dX13_is_123 : decode cX13_is 123 = .ok (.iload 4, 2) := by decide +kernel
theorem dX13_is_125 : decode cX13_is 125 = .ok (.ifCond .eq 12, 3) := by decide +kernel
theorem dX13_is_128 : decode cX13_is 128 = .ok (.aload_n 0, 1) := by decide +kernel
theorem dX13_is_129 : decode cX13_is 129 = .ok (.getfield 99, 3) := by decide +kernel
theorem dX13_is_132 : decode cX13_is 132 = .ok (.iload_n 3, 1) := by decide +kernel
theorem dX13_is_133 : decode cX13_is 133 = .ok (.iaload, 1) := by decide +kernel
theorem dX13_is_134 : decode cX13_is 134 = .ok (.goto 4, 3) := by decide +kernel
theorem dX13_is_137 : decode cX13_is 137 = .ok (.iconst (-1), 1) := by decide +kernel
theorem dX13_is_138 : decode cX13_is 138 = .ok (.ireturn, 1) := by decide +kernel
theorem dX13_is_139 : decode cX13_is 139 = .ok (.aload_n 0, 1) := by decide +kernel
theorem dX13_is_140 : decode cX13_is 140 = .ok (.iload_n 3, 1) := by decide +kernel
theorem dX13_is_141 : decode cX13_is 141 = .ok (.invokevirtual 455, 3) := by decide +kernel
theorem dX13_is_144 : decode cX13_is 144 = .ok (.ireturn, 1) := by decide +kernel
theorem dX13_is_145 : decode cX13_is 145 = .ok (.iload 4, 2) := by decide +kernel
theorem dX13_is_147 : decode cX13_is 147 = .ok (.ifCond .eq 12, 3) := by decide +kernel
theorem dX13_is_150 : decode cX13_is 150 = .ok (.aload_n 0, 1) := by decide +kernel
theorem dX13_is_151 : decode cX13_is 151 = .ok (.getfield 105, 3) := by decide +kernel
theorem dX13_is_154 : decode cX13_is 154 = .ok (.iload_n 3, 1) := by decide +kernel
theorem dX13_is_155 : decode cX13_is 155 = .ok (.iaload, 1) := by decide +kernel
theorem dX13_is_156 : decode cX13_is 156 = .ok (.goto 4, 3) := by decide +kernel
theorem dX13_is_159 : decode cX13_is 159 = .ok (.iconst (-1), 1) := by decide +kernel
theorem dX13_is_160 : decode cX13_is 160 = .ok (.ireturn, 1) := by decide +kernel
theorem dX13_is_161 : decode cX13_is 161 = .ok (.iload 4, 2) := by decide +kernel
theorem dX13_is_163 : decode cX13_is 163 = .ok (.ifCond .eq 19, 3) := by decide +kernel
theorem dX13_is_166 : decode cX13_is 166 = .ok (.aload_n 0, 1) := by decide +kernel
theorem dX13_is_167 : decode cX13_is 167 = .ok (.iload_n 3, 1) := by decide +kernel
theorem dX13_is_168 : decode cX13_is 168 = .ok (.invokevirtual 458, 3) := by decide +kernel
theorem dX13_is_171 : decode cX13_is 171 = .ok (.ifCond .eq 7, 3) := by decide +kernel
theorem dX13_is_174 : decode cX13_is 174 = .ok (.iconst 1, 1) := by decide +kernel
theorem dX13_is_175 : decode cX13_is 175 = .ok (.goto 8, 3) := by decide +kernel
theorem dX13_is_178 : decode cX13_is 178 = .ok (.iconst 0, 1) := by decide +kernel
theorem dX13_is_179 : decode cX13_is 179 = .ok (.goto 4, 3) := by decide +kernel
theorem dX13_is_182 : decode cX13_is 182 = .ok (.iconst (-1), 1) := by decide +kernel
theorem dX13_is_183 : decode cX13_is 183 = .ok (.ireturn, 1) := by decide +kernel
theorem dX13_is_184 : decode cX13_is 184 = .ok (.aload_n 0, 1) := by decide +kernel
theorem dX13_is_185 : decode cX13_is 185 = .ok (.getfield 108, 3) := by decide +kernel
theorem dX13_is_188 : decode cX13_is 188 = .ok (.iload_n 3, 1) := by decide +kernel
theorem dX13_is_189 : decode cX13_is 189 = .ok (.baload, 1) := by decide +kernel
theorem dX13_is_190 : decode cX13_is 190 = .ok (.ifCond .eq 7, 3) := by decide +kernel
theorem dX13_is_193 : decode cX13_is 193 = .ok (.iconst 1, 1) := by decide +kernel
theorem dX13_is_194 : decode cX13_is 194 = .ok (.goto 18, 3) := by decide +kernel
theorem dX13_is_197 : decode cX13_is 197 = .ok (.aload_n 0, 1) := by decide +kernel
theorem dX13_is_198 : decode cX13_is 198 = .ok (.iload_n 3, 1) := by decide +kernel
theorem dX13_is_199 : decode cX13_is 199 = .ok (.invokevirtual 433, 3) := by decide +kernel
theorem dX13_is_202 : decode cX13_is 202 = .ok (.bipush 6, 2) := by decide +kernel
theorem dX13_is_204 : decode cX13_is 204 = .ok (.if_icmp .ne 7, 3) := by decide +kernel
theorem dX13_is_207 : decode cX13_is 207 = .ok (.iconst 2, 1) := by decide +kernel
theorem dX13_is_208 : decode cX13_is 208 = .ok (.goto 4, 3) := by decide +kernel
theorem dX13_is_211 : decode cX13_is 211 = .ok (.iconst 0, 1) := by decide +kernel
theorem dX13_is_212 : decode cX13_is 212 = .ok (.ireturn, 1) := by decide +kernel
theorem dX13_is_213 : decode cX13_is 213 = .ok (.iload 4, 2) := by decide +kernel
theorem dX13_is_215 : decode cX13_is 215 = .ok (.ifCond .eq 19, 3) := by decide +kernel
theorem dX13_is_218 : decode cX13_is 218 = .ok (.aload_n 0, 1) := by decide +kernel
theorem dX13_is_219 : decode cX13_is 219 = .ok (.iload_n 3, 1) := by decide +kernel
theorem dX13_is_220 : decode cX13_is 220 = .ok (.invokevirtual 485, 3) := by decide +kernel
theorem dX13_is_223 : decode cX13_is 223 = .ok (.ifCond .eq 7, 3) := by decide +kernel
theorem dX13_is_226 : decode cX13_is 226 = .ok (.iconst 1, 1) := by decide +kernel
theorem dX13_is_227 : decode cX13_is 227 = .ok (.goto 8, 3) := by decide +kernel
theorem dX13_is_230 : decode cX13_is 230 = .ok (.iconst 0, 1) := by decide +kernel
theorem dX13_is_231 : decode cX13_is 231 = .ok (.goto 4, 3) := by decide +kernel
theorem dX13_is_234 : decode cX13_is 234 = .ok (.iconst (-1), 1) := by decide +kernel
theorem dX13_is_235 : decode cX13_is 235 = .ok (.ireturn, 1) := by decide +kernel
theorem dX13_is_236 : decode cX13_is 236 = .ok (.aload_n 0, 1) := by decide +kernel
theorem dX13_is_237 : decode cX13_is 237 = .ok (.getfield 114, 3) := by decide +kernel
theorem dX13_is_240 : decode cX13_is 240 = .ok (.iload_n 3, 1) := by decide +kernel
theorem dX13_is_241 : decode cX13_is 241 = .ok (.iaload, 1) := by decide +kernel
theorem dX13_is_242 : decode cX13_is 242 = .ok (.iconst (-1), 1) := by decide +kernel
theorem dX13_is_243 : decode cX13_is 243 = .ok (.if_icmp .eq 7, 3) := by decide +kernel
theorem dX13_is_246 : decode cX13_is 246 = .ok (.iconst 1, 1) := by decide +kernel
theorem dX13_is_247 : decode cX13_is 247 = .ok (.goto 4, 3) := by decide +kernel
theorem dX13_is_250 : decode cX13_is 250 = .ok (.iconst 0, 1) := by decide +kernel
theorem dX13_is_251 : decode cX13_is 251 = .ok (.ireturn, 1) := by decide +kernel
theorem dX13_is_252 : decode cX13_is 252 = .ok (.iconst (-1), 1) := by decide +kernel
theorem dX13_is_253 : decode cX13_is 253 = .ok (.ireturn, 1) := by decide +kernel
theorem dX13_count_0 : decode cX13_count 0 = .ok (.iconst 0, 1) := by decide +kernel
theorem dX13_count_1 : decode cX13_count 1 = .ok (.istore_n 2, 1) := by decide +kernel
theorem dX13_count_2 : decode cX13_count 2 = .ok (.iload_n 1, 1) := by decide +kernel
theorem dX13_count_3 : decode cX13_count 3 = .ok (.bipush 10, 2) := by decide +kernel
theorem dX13_count_5 : decode cX13_count 5 = .ok (.bipush 9, 2) := by decide +kernel
theorem dX13_count_7 : decode cX13_count 7 = .ok (.aload_n 0, 1) := by decide +kernel
theorem dX13_count_8 : decode cX13_count 8 = .ok (.getfield 445, 3) := by decide +kernel
theorem dX13_count_11 : decode cX13_count 11 = .ok (.iadd, 1) := by decide +kernel
theorem dX13_count_12 : decode cX13_count 12 = .ok (.invokestatic 256, 3) := by decide +kernel
theorem dX13_count_15 : decode cX13_count 15 = .ok (.ifCond .eq 47, 3) := by decide +kernel
theorem dX13_count_18 : decode cX13_count 18 = .ok (.iconst 0, 1) := by decide +kernel
theorem dX13_count_19 : decode cX13_count 19 = .ok (.istore_n 3, 1) := by decide +kernel
theorem dX13_count_20 : decode cX13_count 20 = .ok (.iload_n 3, 1) := by decide +kernel
theorem dX13_count_21 : decode cX13_count 21 = .ok (.aload_n 0, 1) := by decide +kernel
theorem dX13_count_22 : decode cX13_count 22 = .ok (.getfield 452, 3) := by decide +kernel
theorem dX13_count_25 : decode cX13_count 25 = .ok (.if_icmp .ge 35, 3) := by decide +kernel
theorem dX13_count_28 : decode cX13_count 28 = .ok (.iload_n 2, 1) := by decide +kernel
theorem dX13_count_29 : decode cX13_count 29 = .ok (.aload_n 0, 1) := by decide +kernel
theorem dX13_count_30 : decode cX13_count 30 = .ok (.getfield 138, 3) := by decide +kernel
theorem dX13_count_33 : decode cX13_count 33 = .ok (.iload_n 3, 1) := by decide +kernel
theorem dX13_count_34 : decode cX13_count 34 = .ok (.iaload, 1) := by decide +kernel
theorem dX13_count_35 : decode cX13_count 35 = .ok (.iload_n 1, 1) := by decide +kernel
theorem dX13_count_36 : decode cX13_count 36 = .ok (.bipush 10, 2) := by decide +kernel
theorem dX13_count_38 : decode cX13_count 38 = .ok (.isub, 1) := by decide +kernel
theorem dX13_count_39 : decode cX13_count 39 = .ok (.if_icmp .ne 12, 3) := by decide +kernel
theorem dX13_count_42 : decode cX13_count 42 = .ok (.aload_n 0, 1) := by decide +kernel
theorem dX13_count_43 : decode cX13_count 43 = .ok (.getfield 153, 3) := by decide +kernel
theorem dX13_count_46 : decode cX13_count 46 = .ok (.iload_n 3, 1) := by decide +kernel
theorem dX13_count_47 : decode cX13_count 47 = .ok (.iaload, 1) := by decide +kernel
theorem dX13_count_48 : decode cX13_count 48 = .ok (.goto 4, 3) := by decide +kernel
theorem dX13_count_51 : decode cX13_count 51 = .ok (.iconst 0, 1) := by decide +kernel
theorem dX13_count_52 : decode cX13_count 52 = .ok (.iadd, 1) := by decide +kernel
theorem dX13_count_53 : decode cX13_count 53 = .ok (.istore_n 2, 1) := by decide +kernel
theorem dX13_count_54 : decode cX13_count 54 = .ok (.iinc 3 1, 3) := by decide +kernel
theorem dX13_count_57 : decode cX13_count 57 = .ok (.goto (-37), 3) := by decide +kernel
theorem dX13_count_60 : decode cX13_count 60 = .ok (.iload_n 2, 1) := by decide +kernel
theorem dX13_count_61 : decode cX13_count 61 = .ok (.ireturn, 1) := by decide +kernel
theorem dX13_count_62 : decode cX13_count 62 = .ok (.iload_n 1, 1) := by decide +kernel
theorem dX13_count_63 : decode cX13_count 63 = .ok (.bipush 30, 2) := by decide +kernel
theorem dX13_count_65 : decode cX13_count 65 = .ok (.bipush 29, 2) := by decide +kernel
theorem dX13_count_67 : decode cX13_count 67 = .ok (.aload_n 0, 1) := by decide +kernel
theorem dX13_count_68 : decode cX13_count 68 = .ok (.getfield 445, 3) := by decide +kernel
theorem dX13_count_71 : decode cX13_count 71 = .ok (.iadd, 1) := by decide +kernel
theorem dX13_count_72 : decode cX13_count 72 = .ok (.invokestatic 256, 3) := by decide +kernel
theorem dX13_count_75 : decode cX13_count 75 = .ok (.ifCond .eq 21, 3) := by decide +kernel
theorem dX13_count_78 : decode cX13_count 78 = .ok (.aload_n 0, 1) := by decide +kernel
theorem dX13_count_79 : decode cX13_count 79 = .ok (.getfield 129, 3) := by decide +kernel
theorem dX13_count_82 : decode cX13_count 82 = .ok (.iload_n 1, 1) := by decide +kernel
theorem dX13_count_83 : decode cX13_count 83 = .ok (.bipush 30, 2) := by decide +kernel
theorem dX13_count_85 : decode cX13_count 85 = .ok (.isub, 1) := by decide +kernel
theorem dX13_count_86 : decode cX13_count 86 = .ok (.baload, 1) := by decide +kernel
theorem dX13_count_87 : decode cX13_count 87 = .ok (.ifCond .eq 7, 3) := by decide +kernel
theorem dX13_count_90 : decode cX13_count 90 = .ok (.iconst 0, 1) := by decide +kernel
theorem dX13_count_91 : decode cX13_count 91 = .ok (.goto 4, 3) := by decide +kernel
theorem dX13_count_94 : decode cX13_count 94 = .ok (.iconst 1, 1) := by decide +kernel
theorem dX13_count_95 : decode cX13_count 95 = .ok (.ireturn, 1) := by decide +kernel
theorem dX13_count_96 : decode cX13_count 96 = .ok (.iload_n 1, 1) := by decide +kernel
theorem dX13_count_97 : decode cX13_count 97 = .ok (.tableswitch 148 0 8 #[51, 56, 61, 66, 71, 76, 81, 116, 121], 51) := by decide +kernel
theorem dX13_count_148 : decode cX13_count 148 = .ok (.aload_n 0, 1) := by decide +kernel
theorem dX13_count_149 : decode cX13_count 149 = .ok (.getfield 383, 3) := by decide +kernel
theorem dX13_count_152 : decode cX13_count 152 = .ok (.ireturn, 1) := by decide +kernel
theorem dX13_count_153 : decode cX13_count 153 = .ok (.aload_n 0, 1) := by decide +kernel
theorem dX13_count_154 : decode cX13_count 154 = .ok (.getfield 418, 3) := by decide +kernel
theorem dX13_count_157 : decode cX13_count 157 = .ok (.ireturn, 1) := by decide +kernel
theorem dX13_count_158 : decode cX13_count 158 = .ok (.aload_n 0, 1) := by decide +kernel
theorem dX13_count_159 : decode cX13_count 159 = .ok (.getfield 445, 3) := by decide +kernel
theorem dX13_count_162 : decode cX13_count 162 = .ok (.ireturn, 1) := by decide +kernel
theorem dX13_count_163 : decode cX13_count 163 = .ok (.aload_n 0, 1) := by decide +kernel
theorem dX13_count_164 : decode cX13_count 164 = .ok (.getfield 452, 3) := by decide +kernel
theorem dX13_count_167 : decode cX13_count 167 = .ok (.ireturn, 1) := by decide +kernel
theorem dX13_count_168 : decode cX13_count 168 = .ok (.aload_n 0, 1) := by decide +kernel
theorem dX13_count_169 : decode cX13_count 169 = .ok (.getfield 374, 3) := by decide +kernel
theorem dX13_count_172 : decode cX13_count 172 = .ok (.ireturn, 1) := by decide +kernel
theorem dX13_count_173 : decode cX13_count 173 = .ok (.aload_n 0, 1) := by decide +kernel
theorem dX13_count_174 : decode cX13_count 174 = .ok (.getfield 488, 3) := by decide +kernel
theorem dX13_count_177 : decode cX13_count 177 = .ok (.ireturn, 1) := by decide +kernel
theorem dX13_count_178 : decode cX13_count 178 = .ok (.iconst 0, 1) := by decide +kernel
theorem dX13_count_179 : decode cX13_count 179 = .ok (.istore_n 3, 1) := by decide +kernel
theorem dX13_count_180 : decode cX13_count 180 = .ok (.iload_n 3, 1) := by decide +kernel
theorem dX13_count_181 : decode cX13_count 181 = .ok (.bipush 6, 2) := by decide +kernel
theorem dX13_count_183 : decode cX13_count 183 = .ok (.if_icmp .ge 28, 3) := by decide +kernel
theorem dX13_count_186 : decode cX13_count 186 = .ok (.iload_n 2, 1) := by decide +kernel
theorem dX13_count_187 : decode cX13_count 187 = .ok (.aload_n 0, 1) := by decide +kernel
theorem dX13_count_188 : decode cX13_count 188 = .ok (.getfield 68, 3) := by decide +kernel
theorem dX13_count_191 : decode cX13_count 191 = .ok (.iload_n 3, 1) := by decide +kernel
theorem dX13_count_192 : decode cX13_count 192 = .ok (.baload, 1) := by decide +kernel
theorem dX13_count_193 : decode cX13_count 193 = .ok (.ifCond .eq 9, 3) := by decide +kernel
theorem dX13_count_196 : decode cX13_count 196 = .ok (.iconst 1, 1) := by decide +kernel
theorem dX13_count_197 : decode cX13_count 197 = .ok (.iload_n 3, 1) := by decide +kernel
theorem dX13_count_198 : decode cX13_count 198 = .ok (.ishl, 1) := by decide +kernel
theorem dX13_count_199 : decode cX13_count 199 = .ok (.goto 4, 3) := by decide +kernel
theorem dX13_count_202 : decode cX13_count 202 = .ok (.iconst 0, 1) := by decide +kernel
theorem dX13_count_203 : decode cX13_count 203 = .ok (.ior, 1) := by decide +kernel
theorem dX13_count_204 : decode cX13_count 204 = .ok (.istore_n 2, 1) := by decide +kernel
theorem dX13_count_205 : decode cX13_count 205 = .ok (.iinc 3 1, 3) := by decide +kernel
theorem dX13_count_208 : decode cX13_count 208 = .ok (.goto (-28), 3) := by decide +kernel
theorem dX13_count_211 : decode cX13_count 211 = .ok (.iload_n 2, 1) := by decide +kernel
theorem dX13_count_212 : decode cX13_count 212 = .ok (.ireturn, 1) := by decide +kernel
theorem dX13_count_213 : decode cX13_count 213 = .ok (.aload_n 0, 1) := by decide +kernel
theorem dX13_count_214 : decode cX13_count 214 = .ok (.getfield 252, 3) := by decide +kernel
theorem dX13_count_217 : decode cX13_count 217 = .ok (.ireturn, 1) := by decide +kernel
theorem dX13_count_218 : decode cX13_count 218 = .ok (.iconst 0, 1) := by decide +kernel
theorem dX13_count_219 : decode cX13_count 219 = .ok (.istore_n 3, 1) := by decide +kernel
theorem dX13_count_220 : decode cX13_count 220 = .ok (.iload_n 3, 1) := by decide +kernel
theorem dX13_count_221 : decode cX13_count 221 = .ok (.aload_n 0, 1) := by decide +kernel
theorem dX13_count_222 : decode cX13_count 222 = .ok (.getfield 452, 3) := by decide +kernel
theorem dX13_count_225 : decode cX13_count 225 = .ok (.if_icmp .ge 18, 3) := by decide +kernel
theorem dX13_count_228 : decode cX13_count 228 = .ok (.iload_n 2, 1) := by decide +kernel
theorem dX13_count_229 : decode cX13_count 229 = .ok (.aload_n 0, 1) := by decide +kernel
theorem dX13_count_230 : decode cX13_count 230 = .ok (.getfield 153, 3) := by decide +kernel
theorem dX13_count_233 : decode cX13_count 233 = .ok (.iload_n 3, 1) := by decide +kernel
theorem dX13_count_234 : decode cX13_count 234 = .ok (.iaload, 1) := by decide +kernel
theorem dX13_count_235 : decode cX13_count 235 = .ok (.iadd, 1) := by decide +kernel
theorem dX13_count_236 : decode cX13_count 236 = .ok (.istore_n 2, 1) := by decide +kernel
theorem dX13_count_237 : decode cX13_count 237 = .ok (.iinc 3 1, 3) := by decide +kernel
theorem dX13_count_240 : decode cX13_count 240 = .ok (.goto (-20), 3) := by decide +kernel
theorem dX13_count_243 : decode cX13_count 243 = .ok (.iload_n 2, 1) := by decide +kernel
theorem dX13_count_244 : decode cX13_count 244 = .ok (.ireturn, 1) := by decide +kernel
theorem dX13_count_245 : decode cX13_count 245 = .ok (.iconst (-1), 1) := by decide +kernel
theorem dX13_count_246 : decode cX13_count 246 = .ok (.ireturn, 1) := by decide +kernel
