theorem dX13_in_0 : decode cX13_in 0 = .ok (.iload_n 0, 1) := by decide +kernel
theorem dX13_in_1 : decode cX13_in 1 = .ok (.iload_n 1, 1) := by decide +kernel
theorem dX13_in_2 : decode cX13_in 2 = .ok (.if_icmp .lt 12, 3) := by decide +kernel
theorem dX13_in_5 : decode cX13_in 5 = .ok (.iload_n 0, 1) := by decide +kernel
theorem dX13_in_6 : decode cX13_in 6 = .ok (.iload_n 2, 1) := by decide +kernel
theorem dX13_in_7 : decode cX13_in 7 = .ok (.if_icmp .gt 7, 3) := by decide +kernel
theorem dX13_in_10 : decode cX13_in 10 = .ok (.iconst 1, 1) := by decide +kernel
theorem dX13_in_11 : decode cX13_in 11 = .ok (.goto 4, 3) := by decide +kernel
theorem dX13_in_14 : decode cX13_in 14 = .ok (.iconst 0, 1) := by decide +kernel
theorem dX13_in_15 : decode cX13_in 15 = .ok (.ireturn, 1) := by decide +kernel
theorem dX13_feed_0 : decode cX13_feed 0 = .ok (.aload_n 0, 1) := by decide +kernel
theorem dX13_feed_1 : decode cX13_feed 1 = .ok (.getfield 252, 3) := by decide +kernel
theorem dX13_feed_4 : decode cX13_feed 4 = .ok (.bipush 20, 2) := by decide +kernel
theorem dX13_feed_6 : decode cX13_feed 6 = .ok (.iadd, 1) := by decide +kernel
theorem dX13_feed_7 : decode cX13_feed 7 = .ok (.sipush 600, 3) := by decide +kernel
theorem dX13_feed_10 : decode cX13_feed 10 = .ok (.if_icmp .le 5, 3) := by decide +kernel
theorem dX13_feed_13 : decode cX13_feed 13 = .ok (.iconst (-1), 1) := by decide +kernel
theorem dX13_feed_14 : decode cX13_feed 14 = .ok (.ireturn, 1) := by decide +kernel
theorem dX13_feed_15 : decode cX13_feed 15 = .ok (.iconst 0, 1) := by decide +kernel
theorem dX13_feed_16 : decode cX13_feed 16 = .ok (.istore 6, 2) := by decide +kernel
theorem dX13_feed_18 : decode cX13_feed 18 = .ok (.iload 6, 2) := by decide +kernel
theorem dX13_feed_20 : decode cX13_feed 20 = .ok (.bipush 20, 2) := by decide +kernel
theorem dX13_feed_22 : decode cX13_feed 22 = .ok (.if_icmp .ge 90, 3) := by decide +kernel
theorem dX13_feed_25 : decode cX13_feed 25 = .ok (.iload 6, 2) := by decide +kernel
theorem dX13_feed_27 : decode cX13_feed 27 = .ok (.iconst 4, 1) := by decide +kernel
theorem dX13_feed_28 : decode cX13_feed 28 = .ok (.if_icmp .ge 7, 3) := by decide +kernel
theorem dX13_feed_31 : decode cX13_feed 31 = .ok (.iload_n 1, 1) := by decide +kernel
theorem dX13_feed_32 : decode cX13_feed 32 = .ok (.goto 39, 3) := by decide +kernel
theorem dX13_feed_35 : decode cX13_feed 35 = .ok (.iload 6, 2) := by decide +kernel
theorem dX13_feed_37 : decode cX13_feed 37 = .ok (.bipush 8, 2) := by decide +kernel
theorem dX13_feed_39 : decode cX13_feed 39 = .ok (.if_icmp .ge 7, 3) := by decide +kernel
theorem dX13_feed_42 : decode cX13_feed 42 = .ok (.iload_n 2, 1) := by decide +kernel
theorem dX13_feed_43 : decode cX13_feed 43 = .ok (.goto 28, 3) := by decide +kernel
theorem dX13_feed_46 : decode cX13_feed 46 = .ok (.iload 6, 2) := by decide +kernel
theorem dX13_feed_48 : decode cX13_feed 48 = .ok (.bipush 12, 2) := by decide +kernel
theorem dX13_feed_50 : decode cX13_feed 50 = .ok (.if_icmp .ge 7, 3) := by decide +kernel
theorem dX13_feed_53 : decode cX13_feed 53 = .ok (.iload_n 3, 1) := by decide +kernel
theorem dX13_feed_54 : decode cX13_feed 54 = .ok (.goto 17, 3) := by decide +kernel
theorem dX13_feed_57 : decode cX13_feed 57 = .ok (.iload 6, 2) := by decide +kernel
theorem dX13_feed_59 : decode cX13_feed 59 = .ok (.bipush 16, 2) := by decide +kernel
theorem dX13_feed_61 : decode cX13_feed 61 = .ok (.if_icmp .ge 8, 3) := by decide +kernel
theorem dX13_feed_64 : decode cX13_feed 64 = .ok (.iload 4, 2) := by decide +kernel
theorem dX13_feed_66 : decode cX13_feed 66 = .ok (.goto 5, 3) := by decide +kernel
theorem dX13_feed_69 : decode cX13_feed 69 = .ok (.iload 5, 2) := by decide +kernel
theorem dX13_feed_71 : decode cX13_feed 71 = .ok (.istore 7, 2) := by decide +kernel
theorem dX13_feed_73 : decode cX13_feed 73 = .ok (.aload_n 0, 1) := by decide +kernel
theorem dX13_feed_74 : decode cX13_feed 74 = .ok (.getfield 9, 3) := by decide +kernel
theorem dX13_feed_77 : decode cX13_feed 77 = .ok (.aload_n 0, 1) := by decide +kernel
theorem dX13_feed_78 : decode cX13_feed 78 = .ok (.getfield 252, 3) := by decide +kernel
theorem dX13_feed_81 : decode cX13_feed 81 = .ok (.iload 7, 2) := by decide +kernel
theorem dX13_feed_83 : decode cX13_feed 83 = .ok (.bipush 24, 2) := by decide +kernel
theorem dX13_feed_85 : decode cX13_feed 85 = .ok (.bipush 8, 2) := by decide +kernel
theorem dX13_feed_87 : decode cX13_feed 87 = .ok (.iload 6, 2) := by decide +kernel
theorem dX13_feed_89 : decode cX13_feed 89 = .ok (.iconst 4, 1) := by decide +kernel
theorem dX13_feed_90 : decode cX13_feed 90 = .ok (.irem, 1) := by decide +kernel
theorem dX13_feed_91 : decode cX13_feed 91 = .ok (.imul, 1) := by decide +kernel
theorem dX13_feed_92 : decode cX13_feed 92 = .ok (.isub, 1) := by decide +kernel
theorem dX13_feed_93 : decode cX13_feed 93 = .ok (.ishr, 1) := by decide +kernel
theorem dX13_feed_94 : decode cX13_feed 94 = .ok (.i2b, 1) := by decide +kernel
theorem dX13_feed_95 : decode cX13_feed 95 = .ok (.bastore, 1) := by decide +kernel
theorem dX13_feed_96 : decode cX13_feed 96 = .ok (.aload_n 0, 1) := by decide +kernel
theorem dX13_feed_97 : decode cX13_feed 97 = .ok (.dup, 1) := by decide +kernel
theorem dX13_feed_98 : decode cX13_feed 98 = .ok (.getfield 252, 3) := by decide +kernel
theorem dX13_feed_101 : decode cX13_feed 101 = .ok (.iconst 1, 1) := by decide +kernel
theorem dX13_feed_102 : decode cX13_feed 102 = .ok (.iadd, 1) := by decide +kernel
theorem dX13_feed_103 : decode cX13_feed 103 = .ok (.putfield 252, 3) := by decide +kernel
theorem dX13_feed_106 : decode cX13_feed 106 = .ok (.iinc 6 1, 3) := by decide +kernel
theorem dX13_feed_109 : decode cX13_feed 109 = .ok (.goto (-91), 3) := by decide +kernel
theorem dX13_feed_112 : decode cX13_feed 112 = .ok (.aload_n 0, 1) := by decide +kernel
theorem dX13_feed_113 : decode cX13_feed 113 = .ok (.getfield 252, 3) := by decide +kernel
theorem dX13_feed_116 : decode cX13_feed 116 = .ok (.ireturn, 1) := by decide +kernel
theorem dX13_end_0 : decode cX13_end 0 = .ok (.iload_n 1, 1) := by decide +kernel
theorem dX13_end_1 : decode cX13_end 1 = .ok (.iconst 0, 1) := by decide +kernel
theorem dX13_end_2 : decode cX13_end 2 = .ok (.aload_n 0, 1) := by decide +kernel
theorem dX13_end_3 : decode cX13_end 3 = .ok (.getfield 252, 3) := by decide +kernel
theorem dX13_end_6 : decode cX13_end 6 = .ok (.invokestatic 256, 3) := by decide +kernel
theorem dX13_end_9 : decode cX13_end 9 = .ok (.ifCond .ne 5, 3) := by decide +kernel
theorem dX13_end_12 : decode cX13_end 12 = .ok (.iconst 0, 1) := by decide +kernel
theorem dX13_end_13 : decode cX13_end 13 = .ok (.ireturn, 1) := by decide +kernel
theorem dX13_end_14 : decode cX13_end 14 = .ok (.aload_n 0, 1) := by decide +kernel
theorem dX13_end_15 : decode cX13_end 15 = .ok (.iload_n 1, 1) := by decide +kernel
theorem dX13_end_16 : decode cX13_end 16 = .ok (.putfield 252, 3) := by decide +kernel
theorem dX13_end_19 : decode cX13_end 19 = .ok (.iconst 1, 1) := by decide +kernel
theorem dX13_end_20 : decode cX13_end 20 = .ok (.ireturn, 1) := by decide +kernel
theorem dX13_isLetter_0 : decode cX13_isLetter 0 = .ok (.iload_n 0, 1) := by decide +kernel
theorem dX13_isLetter_1 : decode cX13_isLetter 1 = .ok (.bipush 97, 2) := by decide +kernel
theorem dX13_isLetter_3 : decode cX13_isLetter 3 = .ok (.if_icmp .lt 13, 3) := by decide +kernel
theorem dX13_isLetter_6 : decode cX13_isLetter 6 = .ok (.iload_n 0, 1) := by decide +kernel
theorem dX13_isLetter_7 : decode cX13_isLetter 7 = .ok (.bipush 122, 2) := by decide +kernel
theorem dX13_isLetter_9 : decode cX13_isLetter 9 = .ok (.if_icmp .gt 7, 3) := by decide +kernel
theorem dX13_isLetter_12 : decode cX13_isLetter 12 = .ok (.iconst 1, 1) := by decide +kernel
theorem dX13_isLetter_13 : decode cX13_isLetter 13 = .ok (.goto 4, 3) := by decide +kernel
theorem dX13_isLetter_16 : decode cX13_isLetter 16 = .ok (.iconst 0, 1) := by decide +kernel
theorem dX13_isLetter_17 : decode cX13_isLetter 17 = .ok (.ireturn, 1) := by decide +kernel
theorem dX13_isDigit_0 : decode cX13_isDigit 0 = .ok (.iload_n 0, 1) := by decide +kernel
theorem dX13_isDigit_1 : decode cX13_isDigit 1 = .ok (.bipush 48, 2) := by decide +kernel
theorem dX13_isDigit_3 : decode cX13_isDigit 3 = .ok (.if_icmp .lt 13, 3) := by decide +kernel
theorem dX13_isDigit_6 : decode cX13_isDigit 6 = .ok (.iload_n 0, 1) := by decide +kernel
theorem dX13_isDigit_7 : decode cX13_isDigit 7 = .ok (.bipush 57, 2) := by decide +kernel
theorem dX13_isDigit_9 : decode cX13_isDigit 9 = .ok (.if_icmp .gt 7, 3) := by decide +kernel
theorem dX13_isDigit_12 : decode cX13_isDigit 12 = .ok (.iconst 1, 1) := by decide +kernel
theorem dX13_isDigit_13 : decode cX13_isDigit 13 = .ok (.goto 4, 3) := by decide +kernel
theorem dX13_isDigit_16 : decode cX13_isDigit 16 = .ok (.iconst 0, 1) := by decide +kernel
theorem dX13_isDigit_17 : decode cX13_isDigit 17 = .ok (.ireturn, 1) := by decide +kernel
theorem dX13_isSign_0 : decode cX13_isSign 0 = .ok (.aload_n 0, 1) := by decide +kernel
theorem dX13_isSign_1 : decode cX13_isSign 1 = .ok (.getfield 281, 3) := by decide +kernel
theorem dX13_isSign_4 : decode cX13_isSign 4 = .ok (.iconst 3, 1) := by decide +kernel
theorem dX13_isSign_5 : decode cX13_isSign 5 = .ok (.if_icmp .ne 15, 3) := by decide +kernel
theorem dX13_isSign_8 : decode cX13_isSign 8 = .ok (.aload_n 0, 1) := by decide +kernel
theorem dX13_isSign_9 : decode cX13_isSign 9 = .ok (.getfield 278, 3) := by decide +kernel
theorem dX13_isSign_12 : decode cX13_isSign 12 = .ok (.iload_n 1, 1) := by decide +kernel
theorem dX13_isSign_13 : decode cX13_isSign 13 = .ok (.if_icmp .ne 7, 3) := by decide +kernel
theorem dX13_isSign_16 : decode cX13_isSign 16 = .ok (.iconst 1, 1) := by decide +kernel
theorem dX13_isSign_17 : decode cX13_isSign 17 = .ok (.goto 4, 3) := by decide +kernel
theorem dX13_isSign_20 : decode cX13_isSign 20 = .ok (.iconst 0, 1) := by decide +kernel
theorem dX13_isSign_21 : decode cX13_isSign 21 = .ok (.ireturn, 1) := by decide +kernel
theorem dX13_isWord_0 : decode cX13_isWord 0 = .ok (.aload_n 0, 1) := by decide +kernel
theorem dX13_isWord_1 : decode cX13_isWord 1 = .ok (.getfield 281, 3) := by decide +kernel
theorem dX13_isWord_4 : decode cX13_isWord 4 = .ok (.iconst 2, 1) := by decide +kernel
theorem dX13_isWord_5 : decode cX13_isWord 5 = .ok (.if_icmp .ne 15, 3) := by decide +kernel
theorem dX13_isWord_8 : decode cX13_isWord 8 = .ok (.aload_n 0, 1) := by decide +kernel
theorem dX13_isWord_9 : decode cX13_isWord 9 = .ok (.getfield 278, 3) := by decide +kernel
theorem dX13_isWord_12 : decode cX13_isWord 12 = .ok (.iload_n 1, 1) := by decide +kernel
theorem dX13_isWord_13 : decode cX13_isWord 13 = .ok (.if_icmp .ne 7, 3) := by decide +kernel
theorem dX13_isWord_16 : decode cX13_isWord 16 = .ok (.iconst 1, 1) := by decide +kernel
theorem dX13_isWord_17 : decode cX13_isWord 17 = .ok (.goto 4, 3) := by decide +kernel
theorem dX13_isWord_20 : decode cX13_isWord 20 = .ok (.iconst 0, 1) := by decide +kernel
theorem dX13_isWord_21 : decode cX13_isWord 21 = .ok (.ireturn, 1) := by decide +kernel
theorem dX13_isVolume_0 : decode cX13_isVolume 0 = .ok (.iload_n 0, 1) := by decide +kernel
theorem dX13_isVolume_1 : decode cX13_isVolume 1 = .ok (.iconst 0, 1) := by decide +kernel
theorem dX13_isVolume_2 : decode cX13_isVolume 2 = .ok (.iconst 5, 1) := by decide +kernel
theorem dX13_isVolume_3 : decode cX13_isVolume 3 = .ok (.invokestatic 256, 3) := by decide +kernel
theorem dX13_isVolume_6 : decode cX13_isVolume 6 = .ok (.ireturn, 1) := by decide +kernel
theorem dX13_force_0 : decode cX13_force 0 = .ok (.iload_n 1, 1) := by decide +kernel
theorem dX13_force_1 : decode cX13_force 1 = .ok (.iconst 0, 1) := by decide +kernel
theorem dX13_force_2 : decode cX13_force 2 = .ok (.aload_n 0, 1) := by decide +kernel
theorem dX13_force_3 : decode cX13_force 3 = .ok (.getfield 374, 3) := by decide +kernel
theorem dX13_force_6 : decode cX13_force 6 = .ok (.iconst 1, 1) := by decide +kernel
theorem dX13_force_7 : decode cX13_force 7 = .ok (.isub, 1) := by decide +kernel
theorem dX13_force_8 : decode cX13_force 8 = .ok (.invokestatic 256, 3) := by decide +kernel
theorem dX13_force_11 : decode cX13_force 11 = .ok (.ifCond .eq 33, 3) := by decide +kernel
theorem dX13_force_14 : decode cX13_force 14 = .ok (.iload_n 2, 1) := by decide +kernel
theorem dX13_force_15 : decode cX13_force 15 = .ok (.iconst (-1), 1) := by decide +kernel
theorem dX13_force_16 : decode cX13_force 16 = .ok (.if_icmp .eq 19, 3) := by decide +kernel
theorem dX13_force_19 : decode cX13_force 19 = .ok (.iload_n 2, 1) := by decide +kernel
theorem dX13_force_20 : decode cX13_force 20 = .ok (.invokestatic 377, 3) := by decide +kernel
theorem dX13_force_23 : decode cX13_force 23 = .ok (.ifCond .eq 21, 3) := by decide +kernel
theorem dX13_force_26 : decode cX13_force 26 = .ok (.aload_n 0, 1) := by decide +kernel
theorem dX13_force_27 : decode cX13_force 27 = .ok (.getfield 68, 3) := by decide +kernel
theorem dX13_force_30 : decode cX13_force 30 = .ok (.iload_n 2, 1) := by decide +kernel
theorem dX13_force_31 : decode cX13_force 31 = .ok (.baload, 1) := by decide +kernel
theorem dX13_force_32 : decode cX13_force 32 = .ok (.ifCond .ne 12, 3) := by decide +kernel
theorem dX13_force_35 : decode cX13_force 35 = .ok (.aload_n 0, 1) := by decide +kernel
theorem dX13_force_36 : decode cX13_force 36 = .ok (.getfield 380, 3) := by decide +kernel
theorem dX13_force_39 : decode cX13_force 39 = .ok (.bipush 20, 2) := by decide +kernel
theorem dX13_force_41 : decode cX13_force 41 = .ok (.if_icmp .ne 5, 3) := by decide +kernel
theorem dX13_force_44 : decode cX13_force 44 = .ok (.iconst (-1), 1) := by decide +kernel
theorem dX13_force_45 : decode cX13_force 45 = .ok (.ireturn, 1) := by decide +kernel
theorem dX13_force_46 : decode cX13_force 46 = .ok (.aload_n 0, 1) := by decide +kernel
theorem dX13_force_47 : decode cX13_force 47 = .ok (.getfield 56, 3) := by decide +kernel
theorem dX13_force_50 : decode cX13_force 50 = .ok (.aload_n 0, 1) := by decide +kernel
theorem dX13_force_51 : decode cX13_force 51 = .ok (.getfield 380, 3) := by decide +kernel
theorem dX13_force_54 : decode cX13_force 54 = .ok (.iload_n 1, 1) := by decide +kernel
theorem dX13_force_55 : decode cX13_force 55 = .ok (.iastore, 1) := by decide +kernel
theorem dX13_force_56 : decode cX13_force 56 = .ok (.aload_n 0, 1) := by decide +kernel
theorem dX13_force_57 : decode cX13_force 57 = .ok (.getfield 59, 3) := by decide +kernel
theorem dX13_force_60 : decode cX13_force 60 = .ok (.aload_n 0, 1) := by decide +kernel
theorem dX13_force_61 : decode cX13_force 61 = .ok (.getfield 380, 3) := by decide +kernel
theorem dX13_force_64 : decode cX13_force 64 = .ok (.iload_n 2, 1) := by decide +kernel
theorem dX13_force_65 : decode cX13_force 65 = .ok (.iastore, 1) := by decide +kernel
theorem dX13_force_66 : decode cX13_force 66 = .ok (.aload_n 0, 1) := by decide +kernel
theorem dX13_force_67 : decode cX13_force 67 = .ok (.getfield 62, 3) := by decide +kernel
theorem dX13_force_70 : decode cX13_force 70 = .ok (.aload_n 0, 1) := by decide +kernel
theorem dX13_force_71 : decode cX13_force 71 = .ok (.getfield 380, 3) := by decide +kernel
theorem dX13_force_74 : decode cX13_force 74 = .ok (.aload_n 0, 1) := by decide +kernel
theorem dX13_force_75 : decode cX13_force 75 = .ok (.getfield 383, 3) := by decide +kernel
theorem dX13_force_78 : decode cX13_force 78 = .ok (.iastore, 1) := by decide +kernel
theorem dX13_force_79 : decode cX13_force 79 = .ok (.aload_n 0, 1) := by decide +kernel
theorem dX13_force_80 : decode cX13_force 80 = .ok (.dup, 1) := by decide +kernel
theorem dX13_force_81 : decode cX13_force 81 = .ok (.getfield 380, 3) := by decide +kernel
theorem dX13_force_84 : decode cX13_force 84 = .ok (.iconst 1, 1) := by decide +kernel
theorem dX13_force_85 : decode cX13_force 85 = .ok (.iadd, 1) := by decide +kernel
theorem dX13_force_86 : decode cX13_force 86 = .ok (.putfield 380, 3) := by decide +kernel
theorem dX13_force_89 : decode cX13_force 89 = .ok (.aload_n 0, 1) := by decide +kernel
theorem dX13_force_90 : decode cX13_force 90 = .ok (.getfield 380, 3) := by decide +kernel
theorem dX13_force_93 : decode cX13_force 93 = .ok (.ireturn, 1) := by decide +kernel
theorem dX13_inForce_0 : decode cX13_inForce 0 = .ok (.aload_n 0, 1) := by decide +kernel
theorem dX13_inForce_1 : decode cX13_inForce 1 = .ok (.getfield 380, 3) := by decide +kernel
theorem dX13_inForce_4 : decode cX13_inForce 4 = .ok (.iconst 1, 1) := by decide +kernel
theorem dX13_inForce_5 : decode cX13_inForce 5 = .ok (.isub, 1) := by decide +kernel
theorem dX13_inForce_6 : decode cX13_inForce 6 = .ok (.istore 4, 2) := by decide +kernel
theorem dX13_inForce_8 : decode cX13_inForce 8 = .ok (.iload 4, 2) := by decide +kernel
theorem dX13_inForce_10 : decode cX13_inForce 10 = .ok (.ifCond .lt 74, 3) := by decide +kernel
theorem dX13_inForce_13 : decode cX13_inForce 13 = .ok (.aload_n 0, 1) := by decide +kernel
theorem dX13_inForce_14 : decode cX13_inForce 14 = .ok (.getfield 62, 3) := by decide +kernel
theorem dX13_inForce_17 : decode cX13_inForce 17 = .ok (.iload 4, 2) := by decide +kernel
theorem dX13_inForce_19 : decode cX13_inForce 19 = .ok (.iaload, 1) := by decide +kernel
theorem dX13_inForce_20 : decode cX13_inForce 20 = .ok (.iload_n 3, 1) := by decide +kernel
theorem dX13_inForce_21 : decode cX13_inForce 21 = .ok (.if_icmp .gt 57, 3) := by decide +kernel
theorem dX13_inForce_24 : decode cX13_inForce 24 = .ok (.aload_n 0, 1) := by decide +kernel
theorem dX13_inForce_25 : decode cX13_inForce 25 = .ok (.getfield 59, 3) := by decide +kernel
theorem dX13_inForce_28 : decode cX13_inForce 28 = .ok (.iload 4, 2) := by decide +kernel
theorem dX13_inForce_30 : decode cX13_inForce 30 = .ok (.iaload, 1) := by decide +kernel
theorem dX13_inForce_31 : decode cX13_inForce 31 = .ok (.iconst (-1), 1) := by decide +kernel
theorem dX13_inForce_32 : decode cX13_inForce 32 = .ok (.if_icmp .eq 17, 3) := by decide +kernel
theorem dX13_inForce_35 : decode cX13_inForce 35 = .ok (.aload_n 0, 1) := by decide +kernel
theorem dX13_inForce_36 : decode cX13_inForce 36 = .ok (.getfield 59, 3) := by decide +kernel
theorem dX13_inForce_39 : decode cX13_inForce 39 = .ok (.iload 4, 2) := by decide +kernel
theorem dX13_inForce_41 : decode cX13_inForce 41 = .ok (.iaload, 1) := by decide +kernel
theorem dX13_inForce_42 : decode cX13_inForce 42 = .ok (.iload_n 2, 1) := by decide +kernel
theorem dX13_inForce_43 : decode cX13_inForce 43 = .ok (.if_icmp .eq 6, 3) := by decide +kernel
theorem dX13_inForce_46 : decode cX13_inForce 46 = .ok (.goto 32, 3) := by decide +kernel
theorem dX13_inForce_49 : decode cX13_inForce 49 = .ok (.aload_n 0, 1) := by decide +kernel
theorem dX13_inForce_50 : decode cX13_inForce 50 = .ok (.getfield 41, 3) := by decide +kernel
theorem dX13_inForce_53 : decode cX13_inForce 53 = .ok (.bipush 14, 2) := by decide +kernel
theorem dX13_inForce_55 : decode cX13_inForce 55 = .ok (.aload_n 0, 1) := by decide +kernel
theorem dX13_inForce_56 : decode cX13_inForce 56 = .ok (.getfield 56, 3) := by decide +kernel
theorem dX13_inForce_59 : decode cX13_inForce 59 = .ok (.iload 4, 2) := by decide +kernel
theorem dX13_inForce_61 : decode cX13_inForce 61 = .ok (.iaload, 1) := by decide +kernel
theorem dX13_inForce_62 : decode cX13_inForce 62 = .ok (.imul, 1) := by decide +kernel
theorem dX13_inForce_63 : decode cX13_inForce 63 = .ok (.iload_n 1, 1) := by decide +kernel
theorem dX13_inForce_64 : decode cX13_inForce 64 = .ok (.iadd, 1) := by decide +kernel
theorem dX13_inForce_65 : decode cX13_inForce 65 = .ok (.iaload, 1) := by decide +kernel
theorem dX13_inForce_66 : decode cX13_inForce 66 = .ok (.iconst (-1), 1) := by decide +kernel
theorem dX13_inForce_67 : decode cX13_inForce 67 = .ok (.if_icmp .eq 11, 3) := by decide +kernel
theorem dX13_inForce_70 : decode cX13_inForce 70 = .ok (.aload_n 0, 1) := by decide +kernel
theorem dX13_inForce_71 : decode cX13_inForce 71 = .ok (.getfield 56, 3) := by decide +kernel
theorem dX13_inForce_74 : decode cX13_inForce 74 = .ok (.iload 4, 2) := by decide +kernel
theorem dX13_inForce_76 : decode cX13_inForce 76 = .ok (.iaload, 1) := by decide +kernel
theorem dX13_inForce_77 : decode cX13_inForce 77 = .ok (.ireturn, 1) := by decide +kernel
theorem dX13_inForce_78 : decode cX13_inForce 78 = .ok (.iinc 4 (-1), 3) := by decide +kernel
theorem dX13_inForce_81 : decode cX13_inForce 81 = .ok (.goto (-73), 3) := by decide +kernel
theorem dX13_inForce_84 : decode cX13_inForce 84 = .ok (.iconst (-1), 1) := by decide +kernel
theorem dX13_inForce_85 : decode cX13_inForce 85 = .ok (.ireturn, 1) := by decide +kernel
theorem dX13_rule_0 : decode cX13_rule 0 = .ok (.iload_n 1, 1) := by decide +kernel
theorem dX13_rule_1 : decode cX13_rule 1 = .ok (.iconst 0, 1) := by decide +kernel
theorem dX13_rule_2 : decode cX13_rule 2 = .ok (.iconst 4, 1) := by decide +kernel
theorem dX13_rule_3 : decode cX13_rule 3 = .ok (.invokestatic 256, 3) := by decide +kernel
theorem dX13_rule_6 : decode cX13_rule 6 = .ok (.ifCond .eq 7, 3) := by decide +kernel
theorem dX13_rule_9 : decode cX13_rule 9 = .ok (.iload_n 1, 1) := by decide +kernel
theorem dX13_rule_10 : decode cX13_rule 10 = .ok (.goto 44, 3) := by decide +kernel
theorem dX13_rule_13 : decode cX13_rule 13 = .ok (.iload_n 1, 1) := by decide +kernel
theorem dX13_rule_14 : decode cX13_rule 14 = .ok (.bipush 10, 2) := by decide +kernel
theorem dX13_rule_16 : decode cX13_rule 16 = .ok (.if_icmp .lt 37, 3) := by decide +kernel
theorem dX13_rule_19 : decode cX13_rule 19 = .ok (.iload_n 1, 1) := by decide +kernel
theorem dX13_rule_20 : decode cX13_rule 20 = .ok (.bipush 10, 2) := by decide +kernel
theorem dX13_rule_22 : decode cX13_rule 22 = .ok (.idiv, 1) := by decide +kernel
theorem dX13_rule_23 : decode cX13_rule 23 = .ok (.iconst 3, 1) := by decide +kernel
theorem dX13_rule_24 : decode cX13_rule 24 = .ok (.if_icmp .gt 29, 3) := by decide +kernel
theorem dX13_rule_27 : decode cX13_rule 27 = .ok (.iload_n 1, 1) := by decide +kernel
theorem dX13_rule_28 : decode cX13_rule 28 = .ok (.bipush 10, 2) := by decide +kernel
theorem dX13_rule_30 : decode cX13_rule 30 = .ok (.irem, 1) := by decide +kernel
theorem dX13_rule_31 : decode cX13_rule 31 = .ok (.iconst 2, 1) := by decide +kernel
theorem dX13_rule_32 : decode cX13_rule 32 = .ok (.if_icmp .gt 21, 3) := by decide +kernel
theorem dX13_rule_35 : decode cX13_rule 35 = .ok (.iconst 5, 1) := by decide +kernel
theorem dX13_rule_36 : decode cX13_rule 36 = .ok (.iconst 3, 1) := by decide +kernel
theorem dX13_rule_37 : decode cX13_rule 37 = .ok (.iload_n 1, 1) := by decide +kernel
theorem dX13_rule_38 : decode cX13_rule 38 = .ok (.bipush 10, 2) := by decide +kernel
theorem dX13_rule_40 : decode cX13_rule 40 = .ok (.idiv, 1) := by decide +kernel
theorem dX13_rule_41 : decode cX13_rule 41 = .ok (.iconst 1, 1) := by decide +kernel
theorem dX13_rule_42 : decode cX13_rule 42 = .ok (.isub, 1) := by decide +kernel
theorem dX13_rule_43 : decode cX13_rule 43 = .ok (.imul, 1) := by decide +kernel
theorem dX13_rule_44 : decode cX13_rule 44 = .ok (.iadd, 1) := by decide +kernel
theorem dX13_rule_45 : decode cX13_rule 45 = .ok (.iload_n 1, 1) := by decide +kernel
theorem dX13_rule_46 : decode cX13_rule 46 = .ok (.bipush 10, 2) := by decide +kernel
theorem dX13_rule_48 : decode cX13_rule 48 = .ok (.irem, 1) := by decide +kernel
theorem dX13_rule_49 : decode cX13_rule 49 = .ok (.iadd, 1) := by decide +kernel
theorem dX13_rule_50 : decode cX13_rule 50 = .ok (.goto 4, 3) := by decide +kernel
theorem dX13_rule_53 : decode cX13_rule 53 = .ok (.iconst (-1), 1) := by decide +kernel
theorem dX13_rule_54 : decode cX13_rule 54 = .ok (.istore 4, 2) := by decide +kernel
theorem dX13_rule_56 : decode cX13_rule 56 = .ok (.iload 4, 2) := by decide +kernel
theorem dX13_rule_58 : decode cX13_rule 58 = .ok (.iconst (-1), 1) := by decide +kernel
theorem dX13_rule_59 : decode cX13_rule 59 = .ok (.if_icmp .eq 36, 3) := by decide +kernel
theorem dX13_rule_62 : decode cX13_rule 62 = .ok (.iload_n 2, 1) := by decide +kernel
theorem dX13_rule_63 : decode cX13_rule 63 = .ok (.iconst 0, 1) := by decide +kernel
theorem dX13_rule_64 : decode cX13_rule 64 = .ok (.bipush 6, 2) := by decide +kernel
theorem dX13_rule_66 : decode cX13_rule 66 = .ok (.invokestatic 256, 3) := by decide +kernel
theorem dX13_rule_69 : decode cX13_rule 69 = .ok (.ifCond .eq 26, 3) := by decide +kernel
theorem dX13_rule_72 : decode cX13_rule 72 = .ok (.iload_n 3, 1) := by decide +kernel
theorem dX13_rule_73 : decode cX13_rule 73 = .ok (.iconst 0, 1) := by decide +kernel
theorem dX13_rule_74 : decode cX13_rule 74 = .ok (.aload_n 0, 1) := by decide +kernel
theorem dX13_rule_75 : decode cX13_rule 75 = .ok (.getfield 383, 3) := by decide +kernel
theorem dX13_rule_78 : decode cX13_rule 78 = .ok (.invokestatic 256, 3) := by decide +kernel
theorem dX13_rule_81 : decode cX13_rule 81 = .ok (.ifCond .eq 14, 3) := by decide +kernel
theorem dX13_rule_84 : decode cX13_rule 84 = .ok (.aload_n 0, 1) := by decide +kernel
theorem dX13_rule_85 : decode cX13_rule 85 = .ok (.iload 4, 2) := by decide +kernel
theorem dX13_rule_87 : decode cX13_rule 87 = .ok (.iload_n 2, 1) := by decide +kernel
theorem dX13_rule_88 : decode cX13_rule 88 = .ok (.iload_n 3, 1) := by decide +kernel
theorem dX13_rule_89 : decode cX13_rule 89 = .ok (.invokevirtual 386, 3) := by decide +kernel
theorem dX13_rule_92 : decode cX13_rule 92 = .ok (.goto 4, 3) := by decide +kernel
theorem dX13_rule_95 : decode cX13_rule 95 = .ok (.iconst (-1), 1) := by decide +kernel
theorem dX13_rule_96 : decode cX13_rule 96 = .ok (.ireturn, 1) := by decide +kernel
theorem dX13_without_0 : decode cX13_without 0 = .ok (.iload_n 0, 1) := by decide +kernel
theorem dX13_without_1 : decode cX13_without 1 = .ok (.ifCond .eq 35, 3) := by decide +kernel
theorem dX13_without_4 : decode cX13_without 4 = .ok (.iload_n 0, 1) := by decide +kernel
theorem dX13_without_5 : decode cX13_without 5 = .ok (.iconst 1, 1) := by decide +kernel
theorem dX13_without_6 : decode cX13_without 6 = .ok (.if_icmp .eq 30, 3) := by decide +kernel
theorem dX13_without_9 : decode cX13_without 9 = .ok (.iload_n 0, 1) := by decide +kernel
theorem dX13_without_10 : decode cX13_without 10 = .ok (.iconst 2, 1) := by decide +kernel
theorem dX13_without_11 : decode cX13_without 11 = .ok (.if_icmp .eq 25, 3) := by decide +kernel
theorem dX13_without_14 : decode cX13_without 14 = .ok (.iload_n 0, 1) := by decide +kernel
theorem dX13_without_15 : decode cX13_without 15 = .ok (.iconst 3, 1) := by decide +kernel
theorem dX13_without_16 : decode cX13_without 16 = .ok (.if_icmp .eq 20, 3) := by decide +kernel
theorem dX13_without_19 : decode cX13_without 19 = .ok (.iload_n 0, 1) := by decide +kernel
theorem dX13_without_20 : decode cX13_without 20 = .ok (.iconst 5, 1) := by decide +kernel
theorem dX13_without_21 : decode cX13_without 21 = .ok (.if_icmp .lt 9, 3) := by decide +kernel
theorem dX13_without_24 : decode cX13_without 24 = .ok (.iload_n 0, 1) := by decide +kernel
theorem dX13_without_25 : decode cX13_without 25 = .ok (.bipush 8, 2) := by decide +kernel
theorem dX13_without_27 : decode cX13_without 27 = .ok (.if_icmp .lt 9, 3) := by decide +kernel
theorem dX13_without_30 : decode cX13_without 30 = .ok (.iload_n 0, 1) := by decide +kernel
theorem dX13_without_31 : decode cX13_without 31 = .ok (.bipush 11, 2) := by decide +kernel
theorem dX13_without_33 : decode cX13_without 33 = .ok (.if_icmp .lt 7, 3) := by decide +kernel
theorem dX13_without_36 : decode cX13_without 36 = .ok (.iconst 1, 1) := by decide +kernel
theorem dX13_without_37 : decode cX13_without 37 = .ok (.goto 15, 3) := by decide +kernel
theorem dX13_without_40 : decode cX13_without 40 = .ok (.iload_n 0, 1) := by decide +kernel
theorem dX13_without_41 : decode cX13_without 41 = .ok (.iconst 4, 1) := by decide +kernel
theorem dX13_without_42 : decode cX13_without 42 = .ok (.if_icmp .ne 7, 3) := by decide +kernel
theorem dX13_without_45 : decode cX13_without 45 = .ok (.iconst 0, 1) := by decide +kernel
theorem dX13_without_46 : decode cX13_without 46 = .ok (.goto 6, 3) := by decide +kernel
theorem dX13_without_49 : decode cX13_without 49 = .ok (.sipush 400, 3) := by decide +kernel
theorem dX13_without_52 : decode cX13_without 52 = .ok (.ireturn, 1) := by decide +kernel
theorem dX13_isEntry_0 : decode cX13_isEntry 0 = .ok (.iload_n 1, 1) := by decide +kernel
theorem dX13_isEntry_1 : decode cX13_isEntry 1 = .ok (.iconst 0, 1) := by decide +kernel
theorem dX13_isEntry_2 : decode cX13_isEntry 2 = .ok (.aload_n 0, 1) := by decide +kernel
theorem dX13_isEntry_3 : decode cX13_isEntry 3 = .ok (.getfield 418, 3) := by decide +kernel
theorem dX13_isEntry_6 : decode cX13_isEntry 6 = .ok (.iconst 1, 1) := by decide +kernel
theorem dX13_isEntry_7 : decode cX13_isEntry 7 = .ok (.isub, 1) := by decide +kernel
theorem dX13_isEntry_8 : decode cX13_isEntry 8 = .ok (.invokestatic 256, 3) := by decide +kernel
theorem dX13_isEntry_11 : decode cX13_isEntry 11 = .ok (.ireturn, 1) := by decide +kernel
theorem dX13_isArticle_0 : decode cX13_isArticle 0 = .ok (.aload_n 0, 1) := by decide +kernel
theorem dX13_isArticle_1 : decode cX13_isArticle 1 = .ok (.iload_n 1, 1) := by decide +kernel
theorem dX13_isArticle_2 : decode cX13_isArticle 2 = .ok (.invokevirtual 421, 3) := by decide +kernel
theorem dX13_isArticle_5 : decode cX13_isArticle 5 = .ok (.ifCond .eq 16, 3) := by decide +kernel
theorem dX13_isArticle_8 : decode cX13_isArticle 8 = .ok (.aload_n 0, 1) := by decide +kernel
theorem dX13_isArticle_9 : decode cX13_isArticle 9 = .ok (.getfield 90, 3) := by decide +kernel
theorem dX13_isArticle_12 : decode cX13_isArticle 12 = .ok (.iload_n 1, 1) := by decide +kernel
theorem dX13_isArticle_13 : decode cX13_isArticle 13 = .ok (.iaload, 1) := by decide +kernel
theorem dX13_isArticle_14 : decode cX13_isArticle 14 = .ok (.ifCond .ne 7, 3) := by decide +kernel
theorem dX13_isArticle_17 : decode cX13_isArticle 17 = .ok (.iconst 1, 1) := by decide +kernel
theorem dX13_isArticle_18 : decode cX13_isArticle 18 = .ok (.goto 4, 3) := by decide +kernel
theorem dX13_isArticle_21 : decode cX13_isArticle 21 = .ok (.iconst 0, 1) := by decide +kernel
theorem dX13_isArticle_22 : decode cX13_isArticle 22 = .ok (.ireturn, 1) := by decide +kernel
theorem dX13_go_0 : decode cX13_go 0 = .ok (.iload_n 1, 1) := by decide +kernel
theorem dX13_go_1 : decode cX13_go 1 = .ok (.iconst 0, 1) := by decide +kernel
theorem dX13_go_2 : decode cX13_go 2 = .ok (.sipush 300, 3) := by decide +kernel
theorem dX13_go_5 : decode cX13_go 5 = .ok (.invokestatic 256, 3) := by decide +kernel
theorem dX13_go_8 : decode cX13_go 8 = .ok (.ifCond .ne 5, 3) := by decide +kernel
theorem dX13_go_11 : decode cX13_go 11 = .ok (.iconst (-1), 1) := by decide +kernel
theorem dX13_go_12 : decode cX13_go 12 = .ok (.ireturn, 1) := by decide +kernel
theorem dX13_go_13 : decode cX13_go 13 = .ok (.aload_n 0, 1) := by decide +kernel
theorem dX13_go_14 : decode cX13_go 14 = .ok (.aload_n 0, 1) := by decide +kernel
theorem dX13_go_15 : decode cX13_go 15 = .ok (.getfield 383, 3) := by decide +kernel
theorem dX13_go_18 : decode cX13_go 18 = .ok (.iload_n 1, 1) := by decide +kernel
theorem dX13_go_19 : decode cX13_go 19 = .ok (.iadd, 1) := by decide +kernel
theorem dX13_go_20 : decode cX13_go 20 = .ok (.sipush 2000, 3) := by decide +kernel
theorem dX13_go_23 : decode cX13_go 23 = .ok (.if_icmp .le 9, 3) := by decide +kernel
theorem dX13_go_26 : decode cX13_go 26 = .ok (.sipush 2000, 3) := by decide +kernel
theorem dX13_go_29 : decode cX13_go 29 = .ok (.goto 9, 3) := by decide +kernel
theorem dX13_go_32 : decode cX13_go 32 = .ok (.aload_n 0, 1) := by decide +kernel
theorem dX13_go_33 : decode cX13_go 33 = .ok (.getfield 383, 3) := by decide +kernel
theorem dX13_go_36 : decode cX13_go 36 = .ok (.iload_n 1, 1) := by decide +kernel
theorem dX13_go_37 : decode cX13_go 37 = .ok (.iadd, 1) := by decide +kernel
theorem dX13_go_38 : decode cX13_go 38 = .ok (.putfield 383, 3) := by decide +kernel
theorem dX13_go_41 : decode cX13_go 41 = .ok (.aload_n 0, 1) := by decide +kernel
theorem dX13_go_42 : decode cX13_go 42 = .ok (.getfield 383, 3) := by decide +kernel
theorem dX13_go_45 : decode cX13_go 45 = .ok (.ireturn, 1) := by decide +kernel
theorem dX13_bound_0 : decode cX13_bound 0 = .ok (.iload_n 1, 1) := by decide +kernel
theorem dX13_bound_1 : decode cX13_bound 1 = .ok (.iconst 0, 1) := by decide +kernel
theorem dX13_bound_2 : decode cX13_bound 2 = .ok (.iconst 4, 1) := by decide +kernel
theorem dX13_bound_3 : decode cX13_bound 3 = .ok (.invokestatic 256, 3) := by decide +kernel
theorem dX13_bound_6 : decode cX13_bound 6 = .ok (.ifCond .eq 44, 3) := by decide +kernel
theorem dX13_bound_9 : decode cX13_bound 9 = .ok (.iload_n 2, 1) := by decide +kernel
theorem dX13_bound_10 : decode cX13_bound 10 = .ok (.iload_n 1, 1) := by decide +kernel
theorem dX13_bound_11 : decode cX13_bound 11 = .ok (.ifCond .ne 7, 3) := by decide +kernel
theorem dX13_bound_14 : decode cX13_bound 14 = .ok (.iconst 0, 1) := by decide +kernel
theorem dX13_bound_15 : decode cX13_bound 15 = .ok (.goto 11, 3) := by decide +kernel
theorem dX13_bound_18 : decode cX13_bound 18 = .ok (.aload_n 0, 1) := by decide +kernel
theorem dX13_bound_19 : decode cX13_bound 19 = .ok (.getfield 65, 3) := by decide +kernel
theorem dX13_bound_22 : decode cX13_bound 22 = .ok (.iload_n 1, 1) := by decide +kernel
theorem dX13_bound_23 : decode cX13_bound 23 = .ok (.iconst 1, 1) := by decide +kernel
theorem dX13_bound_24 : decode cX13_bound 24 = .ok (.isub, 1) := by decide +kernel
theorem dX13_bound_25 : decode cX13_bound 25 = .ok (.iaload, 1) := by decide +kernel
theorem dX13_bound_26 : decode cX13_bound 26 = .ok (.iload_n 1, 1) := by decide +kernel
theorem dX13_bound_27 : decode cX13_bound 27 = .ok (.iconst 4, 1) := by decide +kernel
theorem dX13_bound_28 : decode cX13_bound 28 = .ok (.if_icmp .ne 8, 3) := by decide +kernel
theorem dX13_bound_31 : decode cX13_bound 31 = .ok (.bipush 25, 2) := by decide +kernel
theorem dX13_bound_33 : decode cX13_bound 33 = .ok (.goto 11, 3) := by decide +kernel
theorem dX13_bound_36 : decode cX13_bound 36 = .ok (.aload_n 0, 1) := by decide +kernel
theorem dX13_bound_37 : decode cX13_bound 37 = .ok (.getfield 65, 3) := by decide +kernel
theorem dX13_bound_40 : decode cX13_bound 40 = .ok (.iload_n 1, 1) := by decide +kernel
theorem dX13_bound_41 : decode cX13_bound 41 = .ok (.iconst 1, 1) := by decide +kernel
theorem dX13_bound_42 : decode cX13_bound 42 = .ok (.iadd, 1) := by decide +kernel
theorem dX13_bound_43 : decode cX13_bound 43 = .ok (.iaload, 1) := by decide +kernel
theorem dX13_bound_44 : decode cX13_bound 44 = .ok (.invokestatic 256, 3) := by decide +kernel
theorem dX13_bound_47 : decode cX13_bound 47 = .ok (.ifCond .ne 5, 3) := by decide +kernel
theorem dX13_bound_50 : decode cX13_bound 50 = .ok (.iconst 0, 1) := by decide +kernel
theorem dX13_bound_51 : decode cX13_bound 51 = .ok (.ireturn, 1) := by decide +kernel
theorem dX13_bound_52 : decode cX13_bound 52 = .ok (.iconst 0, 1) := by decide +kernel
theorem dX13_bound_53 : decode cX13_bound 53 = .ok (.istore_n 3, 1) := by decide +kernel
theorem dX13_bound_54 : decode cX13_bound 54 = .ok (.iload_n 3, 1) := by decide +kernel
theorem dX13_bound_55 : decode cX13_bound 55 = .ok (.bipush 6, 2) := by decide +kernel
theorem dX13_bound_57 : decode cX13_bound 57 = .ok (.if_icmp .ge 20, 3) := by decide +kernel
theorem dX13_bound_60 : decode cX13_bound 60 = .ok (.aload_n 0, 1) := by decide +kernel
theorem dX13_bound_61 : decode cX13_bound 61 = .ok (.getfield 68, 3) := by decide +kernel
theorem dX13_bound_64 : decode cX13_bound 64 = .ok (.iload_n 3, 1) := by decide +kernel
theorem dX13_bound_65 : decode cX13_bound 65 = .ok (.baload, 1) := by decide +kernel
theorem dX13_bound_66 : decode cX13_bound 66 = .ok (.ifCond .eq 5, 3) := by decide +kernel
theorem dX13_bound_69 : decode cX13_bound 69 = .ok (.iconst 0, 1) := by decide +kernel
theorem dX13_bound_70 : decode cX13_bound 70 = .ok (.ireturn, 1) := by decide +kernel
theorem dX13_bound_71 : decode cX13_bound 71 = .ok (.iinc 3 1, 3) := by decide +kernel
theorem dX13_bound_74 : decode cX13_bound 74 = .ok (.goto (-20), 3) := by decide +kernel
theorem dX13_bound_77 : decode cX13_bound 77 = .ok (.aload_n 0, 1) := by decide +kernel
theorem dX13_bound_78 : decode cX13_bound 78 = .ok (.getfield 65, 3) := by decide +kernel
theorem dX13_bound_81 : decode cX13_bound 81 = .ok (.iload_n 1, 1) := by decide +kernel
theorem dX13_bound_82 : decode cX13_bound 82 = .ok (.iload_n 2, 1) := by decide +kernel
theorem dX13_bound_83 : decode cX13_bound 83 = .ok (.iastore, 1) := by decide +kernel
theorem dX13_bound_84 : decode cX13_bound 84 = .ok (.iconst 1, 1) := by decide +kernel
theorem dX13_bound_85 : decode cX13_bound 85 = .ok (.ireturn, 1) := by decide +kernel
theorem dX13_isHand_0 : decode cX13_isHand 0 = .ok (.iload_n 1, 1) := by decide +kernel
theorem dX13_isHand_1 : decode cX13_isHand 1 = .ok (.iconst 0, 1) := by decide +kernel
theorem dX13_isHand_2 : decode cX13_isHand 2 = .ok (.aload_n 0, 1) := by decide +kernel
theorem dX13_isHand_3 : decode cX13_isHand 3 = .ok (.getfield 445, 3) := by decide +kernel
theorem dX13_isHand_6 : decode cX13_isHand 6 = .ok (.iconst 1, 1) := by decide +kernel
theorem dX13_isHand_7 : decode cX13_isHand 7 = .ok (.isub, 1) := by decide +kernel
theorem dX13_isHand_8 : decode cX13_isHand 8 = .ok (.invokestatic 256, 3) := by decide +kernel
theorem dX13_isHand_11 : decode cX13_isHand 11 = .ok (.ireturn, 1) := by decide +kernel
theorem dX13_hand_0 : decode cX13_hand 0 = .ok (.iload_n 1, 1) := by decide +kernel
theorem dX13_hand_1 : decode cX13_hand 1 = .ok (.iconst 1, 1) := by decide +kernel
theorem dX13_hand_2 : decode cX13_hand 2 = .ok (.sipush 255, 3) := by decide +kernel
theorem dX13_hand_5 : decode cX13_hand 5 = .ok (.invokestatic 256, 3) := by decide +kernel
theorem dX13_hand_8 : decode cX13_hand 8 = .ok (.ifCond .eq 33, 3) := by decide +kernel
theorem dX13_hand_11 : decode cX13_hand 11 = .ok (.iload_n 2, 1) := by decide +kernel
theorem dX13_hand_12 : decode cX13_hand 12 = .ok (.iconst 1, 1) := by decide +kernel
theorem dX13_hand_13 : decode cX13_hand 13 = .ok (.bipush 20, 2) := by decide +kernel
theorem dX13_hand_15 : decode cX13_hand 15 = .ok (.invokestatic 256, 3) := by decide +kernel
theorem dX13_hand_18 : decode cX13_hand 18 = .ok (.ifCond .eq 23, 3) := by decide +kernel
theorem dX13_hand_21 : decode cX13_hand 21 = .ok (.iload_n 3, 1) := by decide +kernel
theorem dX13_hand_22 : decode cX13_hand 22 = .ok (.ldc_w 448, 3) := by decide +kernel
theorem dX13_hand_25 : decode cX13_hand 25 = .ok (.iconst 0, 1) := by decide +kernel
theorem dX13_hand_26 : decode cX13_hand 26 = .ok (.invokestatic 256, 3) := by decide +kernel
theorem dX13_hand_29 : decode cX13_hand 29 = .ok (.ifCond .eq 12, 3) := by decide +kernel
theorem dX13_hand_32 : decode cX13_hand 32 = .ok (.aload_n 0, 1) := by decide +kernel
theorem dX13_hand_33 : decode cX13_hand 33 = .ok (.getfield 445, 3) := by decide +kernel
theorem dX13_hand_36 : decode cX13_hand 36 = .ok (.bipush 12, 2) := by decide +kernel
theorem dX13_hand_38 : decode cX13_hand 38 = .ok (.if_icmp .ne 5, 3) := by decide +kernel
theorem dX13_hand_41 : decode cX13_hand 41 = .ok (.iconst (-1), 1) := by decide +kernel
theorem dX13_hand_42 : decode cX13_hand 42 = .ok (.ireturn, 1) := by decide +kernel
theorem dX13_hand_43 : decode cX13_hand 43 = .ok (.aload_n 0, 1) := by decide +kernel
theorem dX13_hand_44 : decode cX13_hand 44 = .ok (.getfield 120, 3) := by decide +kernel
theorem dX13_hand_47 : decode cX13_hand 47 = .ok (.aload_n 0, 1) := by decide +kernel
theorem dX13_hand_48 : decode cX13_hand 48 = .ok (.getfield 445, 3) := by decide +kernel
theorem dX13_hand_51 : decode cX13_hand 51 = .ok (.iload_n 1, 1) := by decide +kernel
theorem dX13_hand_52 : decode cX13_hand 52 = .ok (.iastore, 1) := by decide +kernel
theorem dX13_hand_53 : decode cX13_hand 53 = .ok (.aload_n 0, 1) := by decide +kernel
theorem dX13_hand_54 : decode cX13_hand 54 = .ok (.getfield 123, 3) := by decide +kernel
theorem dX13_hand_57 : decode cX13_hand 57 = .ok (.aload_n 0, 1) := by decide +kernel
theorem dX13_hand_58 : decode cX13_hand 58 = .ok (.getfield 445, 3) := by decide +kernel
theorem dX13_hand_61 : decode cX13_hand 61 = .ok (.iload_n 2, 1) := by decide +kernel
theorem dX13_hand_62 : decode cX13_hand 62 = .ok (.iastore, 1) := by decide +kernel
theorem dX13_hand_63 : decode cX13_hand 63 = .ok (.aload_n 0, 1) := by decide +kernel
theorem dX13_hand_64 : decode cX13_hand 64 = .ok (.getfield 126, 3) := by decide +kernel
theorem dX13_hand_67 : decode cX13_hand 67 = .ok (.aload_n 0, 1) := by decide +kernel
theorem dX13_hand_68 : decode cX13_hand 68 = .ok (.getfield 445, 3) := by decide +kernel
theorem dX13_hand_71 : decode cX13_hand 71 = .ok (.iload_n 3, 1) := by decide +kernel
theorem dX13_hand_72 : decode cX13_hand 72 = .ok (.iastore, 1) := by decide +kernel
theorem dX13_hand_73 : decode cX13_hand 73 = .ok (.aload_n 0, 1) := by decide +kernel
theorem dX13_hand_74 : decode cX13_hand 74 = .ok (.dup, 1) := by decide +kernel
theorem dX13_hand_75 : decode cX13_hand 75 = .ok (.getfield 445, 3) := by decide +kernel
theorem dX13_hand_78 : decode cX13_hand 78 = .ok (.iconst 1, 1) := by decide +kernel
theorem dX13_hand_79 : decode cX13_hand 79 = .ok (.iadd, 1) := by decide +kernel
theorem dX13_hand_80 : decode cX13_hand 80 = .ok (.putfield 445, 3) := by decide +kernel
theorem dX13_hand_83 : decode cX13_hand 83 = .ok (.aload_n 0, 1) := by decide +kernel
theorem dX13_hand_84 : decode cX13_hand 84 = .ok (.getfield 445, 3) := by decide +kernel
theorem dX13_hand_87 : decode cX13_hand 87 = .ok (.iconst 1, 1) := by decide +kernel
theorem dX13_hand_88 : decode cX13_hand 88 = .ok (.isub, 1) := by decide +kernel
theorem dX13_hand_89 : decode cX13_hand 89 = .ok (.ireturn, 1) := by decide +kernel
theorem dX13_enemies_0 : decode cX13_enemies 0 = .ok (.aload_n 0, 1) := by decide +kernel
theorem dX13_enemies_1 : decode cX13_enemies 1 = .ok (.iload_n 1, 1) := by decide +kernel
theorem dX13_enemies_2 : decode cX13_enemies 2 = .ok (.invokevirtual 449, 3) := by decide +kernel
theorem dX13_enemies_5 : decode cX13_enemies 5 = .ok (.ifCond .eq 30, 3) := by decide +kernel
theorem dX13_enemies_8 : decode cX13_enemies 8 = .ok (.aload_n 0, 1) := by decide +kernel
theorem dX13_enemies_9 : decode cX13_enemies 9 = .ok (.iload_n 2, 1) := by decide +kernel
theorem dX13_enemies_10 : decode cX13_enemies 10 = .ok (.invokevirtual 449, 3) := by decide +kernel
theorem dX13_enemies_13 : decode cX13_enemies 13 = .ok (.ifCond .eq 22, 3) := by decide +kernel
theorem dX13_enemies_16 : decode cX13_enemies 16 = .ok (.iload_n 1, 1) := by decide +kernel
theorem dX13_enemies_17 : decode cX13_enemies 17 = .ok (.iload_n 2, 1) := by decide +kernel
theorem dX13_enemies_18 : decode cX13_enemies 18 = .ok (.if_icmp .eq 17, 3) := by decide +kernel
theorem dX13_enemies_21 : decode cX13_enemies 21 = .ok (.aload_n 0, 1) := by decide +kernel
theorem dX13_enemies_22 : decode cX13_enemies 22 = .ok (.getfield 132, 3) := by decide +kernel
theorem dX13_enemies_25 : decode cX13_enemies 25 = .ok (.bipush 12, 2) := by decide +kernel
theorem dX13_enemies_27 : decode cX13_enemies 27 = .ok (.iload_n 1, 1) := by decide +kernel
theorem dX13_enemies_28 : decode cX13_enemies 28 = .ok (.imul, 1) := by decide +kernel
theorem dX13_enemies_29 : decode cX13_enemies 29 = .ok (.iload_n 2, 1) := by decide +kernel
theorem dX13_enemies_30 : decode cX13_enemies 30 = .ok (.iadd, 1) := by decide +kernel
theorem dX13_enemies_31 : decode cX13_enemies 31 = .ok (.baload, 1) := by decide +kernel
theorem dX13_enemies_32 : decode cX13_enemies 32 = .ok (.ifCond .eq 5, 3) := by decide +kernel
theorem dX13_enemies_35 : decode cX13_enemies 35 = .ok (.iconst 0, 1) := by decide +kernel
theorem dX13_enemies_36 : decode cX13_enemies 36 = .ok (.ireturn, 1) := by decide +kernel
theorem dX13_enemies_37 : decode cX13_enemies 37 = .ok (.aload_n 0, 1) := by decide +kernel
theorem dX13_enemies_38 : decode cX13_enemies 38 = .ok (.getfield 132, 3) := by decide +kernel
theorem dX13_enemies_41 : decode cX13_enemies 41 = .ok (.bipush 12, 2) := by decide +kernel
theorem dX13_enemies_43 : decode cX13_enemies 43 = .ok (.iload_n 1, 1) := by decide +kernel
theorem dX13_enemies_44 : decode cX13_enemies 44 = .ok (.imul, 1) := by decide +kernel
theorem dX13_enemies_45 : decode cX13_enemies 45 = .ok (.iload_n 2, 1) := by decide +kernel
theorem dX13_enemies_46 : decode cX13_enemies 46 = .ok (.iadd, 1) := by decide +kernel
theorem dX13_enemies_47 : decode cX13_enemies 47 = .ok (.iconst 1, 1) := by decide +kernel
theorem dX13_enemies_48 : decode cX13_enemies 48 = .ok (.bastore, 1) := by decide +kernel
theorem dX13_enemies_49 : decode cX13_enemies 49 = .ok (.aload_n 0, 1) := by decide +kernel
theorem dX13_enemies_50 : decode cX13_enemies 50 = .ok (.getfield 132, 3) := by decide +kernel
theorem dX13_enemies_53 : decode cX13_enemies 53 = .ok (.bipush 12, 2) := by decide +kernel
theorem dX13_enemies_55 : decode cX13_enemies 55 = .ok (.iload_n 2, 1) := by decide +kernel
theorem dX13_enemies_56 : decode cX13_enemies 56 = .ok (.imul, 1) := by decide +kernel
theorem dX13_enemies_57 : decode cX13_enemies 57 = .ok (.iload_n 1, 1) := by decide +kernel
theorem dX13_enemies_58 : decode cX13_enemies 58 = .ok (.iadd, 1) := by decide +kernel
theorem dX13_enemies_59 : decode cX13_enemies 59 = .ok (.iconst 1, 1) := by decide +kernel
theorem dX13_enemies_60 : decode cX13_enemies 60 = .ok (.bastore, 1) := by decide +kernel
theorem dX13_enemies_61 : decode cX13_enemies 61 = .ok (.iconst 1, 1) := by decide +kernel
theorem dX13_enemies_62 : decode cX13_enemies 62 = .ok (.ireturn, 1) := by decide +kernel
theorem dX13_linesOf_0 : decode cX13_linesOf 0 = .ok (.iconst 0, 1) := by decide +kernel
theorem dX13_linesOf_1 : decode cX13_linesOf 1 = .ok (.istore_n 2, 1) := by decide +kernel
theorem dX13_linesOf_2 : decode cX13_linesOf 2 = .ok (.iconst 0, 1) := by decide +kernel
theorem dX13_linesOf_3 : decode cX13_linesOf 3 = .ok (.istore_n 3, 1) := by decide +kernel
theorem dX13_linesOf_4 : decode cX13_linesOf 4 = .ok (.iload_n 3, 1) := by decide +kernel
theorem dX13_linesOf_5 : decode cX13_linesOf 5 = .ok (.aload_n 0, 1) := by decide +kernel
theorem dX13_linesOf_6 : decode cX13_linesOf 6 = .ok (.getfield 452, 3) := by decide +kernel
theorem dX13_linesOf_9 : decode cX13_linesOf 9 = .ok (.if_icmp .ge 27, 3) := by decide +kernel
theorem dX13_linesOf_12 : decode cX13_linesOf 12 = .ok (.iload_n 2, 1) := by decide +kernel
theorem dX13_linesOf_13 : decode cX13_linesOf 13 = .ok (.aload_n 0, 1) := by decide +kernel
theorem dX13_linesOf_14 : decode cX13_linesOf 14 = .ok (.getfield 135, 3) := by decide +kernel
theorem dX13_linesOf_17 : decode cX13_linesOf 17 = .ok (.iload_n 3, 1) := by decide +kernel
theorem dX13_linesOf_18 : decode cX13_linesOf 18 = .ok (.iaload, 1) := by decide +kernel
theorem dX13_linesOf_19 : decode cX13_linesOf 19 = .ok (.iload_n 1, 1) := by decide +kernel
theorem dX13_linesOf_20 : decode cX13_linesOf 20 = .ok (.if_icmp .ne 7, 3) := by decide +kernel
theorem dX13_linesOf_23 : decode cX13_linesOf 23 = .ok (.iconst 1, 1) := by decide +kernel
theorem dX13_linesOf_24 : decode cX13_linesOf 24 = .ok (.goto 4, 3) := by decide +kernel
theorem dX13_linesOf_27 : decode cX13_linesOf 27 = .ok (.iconst 0, 1) := by decide +kernel
theorem dX13_linesOf_28 : decode cX13_linesOf 28 = .ok (.iadd, 1) := by decide +kernel
theorem dX13_linesOf_29 : decode cX13_linesOf 29 = .ok (.istore_n 2, 1) := by decide +kernel
theorem dX13_linesOf_30 : decode cX13_linesOf 30 = .ok (.iinc 3 1, 3) := by decide +kernel
theorem dX13_linesOf_33 : decode cX13_linesOf 33 = .ok (.goto (-29), 3) := by decide +kernel
theorem dX13_linesOf_36 : decode cX13_linesOf 36 = .ok (.iload_n 2, 1) := by decide +kernel
theorem dX13_linesOf_37 : decode cX13_linesOf 37 = .ok (.ireturn, 1) := by decide +kernel
theorem dX13_isDone_0 : decode cX13_isDone 0 = .ok (.aload_n 0, 1) := by decide +kernel
theorem dX13_isDone_1 : decode cX13_isDone 1 = .ok (.getfield 90, 3) := by decide +kernel
theorem dX13_isDone_4 : decode cX13_isDone 4 = .ok (.iload_n 1, 1) := by decide +kernel
theorem dX13_isDone_5 : decode cX13_isDone 5 = .ok (.iaload, 1) := by decide +kernel
theorem dX13_isDone_6 : decode cX13_isDone 6 = .ok (.ifCond .ne 21, 3) := by decide +kernel
theorem dX13_isDone_9 : decode cX13_isDone 9 = .ok (.aload_n 0, 1) := by decide +kernel
theorem dX13_isDone_10 : decode cX13_isDone 10 = .ok (.iload_n 1, 1) := by decide +kernel
theorem dX13_isDone_11 : decode cX13_isDone 11 = .ok (.invokevirtual 455, 3) := by decide +kernel
theorem dX13_isDone_14 : decode cX13_isDone 14 = .ok (.aload_n 0, 1) := by decide +kernel
theorem dX13_isDone_15 : decode cX13_isDone 15 = .ok (.getfield 99, 3) := by decide +kernel
theorem dX13_isDone_18 : decode cX13_isDone 18 = .ok (.iload_n 1, 1) := by decide +kernel
theorem dX13_isDone_19 : decode cX13_isDone 19 = .ok (.iaload, 1) := by decide +kernel
theorem dX13_isDone_20 : decode cX13_isDone 20 = .ok (.if_icmp .ne 7, 3) := by decide +kernel
theorem dX13_isDone_23 : decode cX13_isDone 23 = .ok (.iconst 1, 1) := by decide +kernel
theorem dX13_isDone_24 : decode cX13_isDone 24 = .ok (.goto 4, 3) := by decide +kernel
theorem dX13_isDone_27 : decode cX13_isDone 27 = .ok (.iconst 0, 1) := by decide +kernel
theorem dX13_isDone_28 : decode cX13_isDone 28 = .ok (.ireturn, 1) := by decide +kernel
theorem dX13_factsOf_0 : decode cX13_factsOf 0 = .ok (.iconst 0, 1) := by decide +kernel
theorem dX13_factsOf_1 : decode cX13_factsOf 1 = .ok (.istore_n 2, 1) := by decide +kernel
theorem dX13_factsOf_2 : decode cX13_factsOf 2 = .ok (.iconst 0, 1) := by decide +kernel
theorem dX13_factsOf_3 : decode cX13_factsOf 3 = .ok (.istore_n 3, 1) := by decide +kernel
theorem dX13_factsOf_4 : decode cX13_factsOf 4 = .ok (.iload_n 3, 1) := by decide +kernel
theorem dX13_factsOf_5 : decode cX13_factsOf 5 = .ok (.bipush 40, 2) := by decide +kernel
theorem dX13_factsOf_7 : decode cX13_factsOf 7 = .ok (.if_icmp .ge 77, 3) := by decide +kernel
theorem dX13_factsOf_10 : decode cX13_factsOf 10 = .ok (.iconst 0, 1) := by decide +kernel
theorem dX13_factsOf_11 : decode cX13_factsOf 11 = .ok (.istore 4, 2) := by decide +kernel
theorem dX13_factsOf_13 : decode cX13_factsOf 13 = .ok (.iconst 0, 1) := by decide +kernel
theorem dX13_factsOf_14 : decode cX13_factsOf 14 = .ok (.istore 5, 2) := by decide +kernel
theorem dX13_factsOf_16 : decode cX13_factsOf 16 = .ok (.iload 5, 2) := by decide +kernel
theorem dX13_factsOf_18 : decode cX13_factsOf 18 = .ok (.aload_n 0, 1) := by decide +kernel
theorem dX13_factsOf_19 : decode cX13_factsOf 19 = .ok (.getfield 452, 3) := by decide +kernel
theorem dX13_factsOf_22 : decode cX13_factsOf 22 = .ok (.if_icmp .ge 43, 3) := by decide +kernel
theorem dX13_factsOf_25 : decode cX13_factsOf 25 = .ok (.iload 4, 2) := by decide +kernel
theorem dX13_factsOf_27 : decode cX13_factsOf 27 = .ok (.ifCond .ne 38, 3) := by decide +kernel
theorem dX13_factsOf_30 : decode cX13_factsOf 30 = .ok (.aload_n 0, 1) := by decide +kernel
theorem dX13_factsOf_31 : decode cX13_factsOf 31 = .ok (.getfield 135, 3) := by decide +kernel
theorem dX13_factsOf_34 : decode cX13_factsOf 34 = .ok (.iload 5, 2) := by decide +kernel
theorem dX13_factsOf_36 : decode cX13_factsOf 36 = .ok (.iaload, 1) := by decide +kernel
theorem dX13_factsOf_37 : decode cX13_factsOf 37 = .ok (.iload_n 1, 1) := by decide +kernel
theorem dX13_factsOf_38 : decode cX13_factsOf 38 = .ok (.if_icmp .ne 18, 3) := by decide +kernel
theorem dX13_factsOf_41 : decode cX13_factsOf 41 = .ok (.aload_n 0, 1) := by decide +kernel
theorem dX13_factsOf_42 : decode cX13_factsOf 42 = .ok (.getfield 141, 3) := by decide +kernel
theorem dX13_factsOf_45 : decode cX13_factsOf 45 = .ok (.iload 5, 2) := by decide +kernel
theorem dX13_factsOf_47 : decode cX13_factsOf 47 = .ok (.iaload, 1) := by decide +kernel
theorem dX13_factsOf_48 : decode cX13_factsOf 48 = .ok (.iload_n 3, 1) := by decide +kernel
theorem dX13_factsOf_49 : decode cX13_factsOf 49 = .ok (.if_icmp .ne 7, 3) := by decide +kernel
theorem dX13_factsOf_52 : decode cX13_factsOf 52 = .ok (.iconst 1, 1) := by decide +kernel
theorem dX13_factsOf_53 : decode cX13_factsOf 53 = .ok (.goto 4, 3) := by decide +kernel
theorem dX13_factsOf_56 : decode cX13_factsOf 56 = .ok (.iconst 0, 1) := by decide +kernel
theorem dX13_factsOf_57 : decode cX13_factsOf 57 = .ok (.istore 4, 2) := by decide +kernel
theorem dX13_factsOf_59 : decode cX13_factsOf 59 = .ok (.iinc 5 1, 3) := by decide +kernel
theorem dX13_factsOf_62 : decode cX13_factsOf 62 = .ok (.goto (-46), 3) := by decide +kernel
theorem dX13_factsOf_65 : decode cX13_factsOf 65 = .ok (.iload_n 2, 1) := by decide +kernel
theorem dX13_factsOf_66 : decode cX13_factsOf 66 = .ok (.iload 4, 2) := by decide +kernel
theorem dX13_factsOf_68 : decode cX13_factsOf 68 = .ok (.ifCond .eq 7, 3) := by decide +kernel
theorem dX13_factsOf_71 : decode cX13_factsOf 71 = .ok (.iconst 1, 1) := by decide +kernel
theorem dX13_factsOf_72 : decode cX13_factsOf 72 = .ok (.goto 4, 3) := by decide +kernel
theorem dX13_factsOf_75 : decode cX13_factsOf 75 = .ok (.iconst 0, 1) := by decide +kernel
theorem dX13_factsOf_76 : decode cX13_factsOf 76 = .ok (.iadd, 1) := by decide +kernel
theorem dX13_factsOf_77 : decode cX13_factsOf 77 = .ok (.istore_n 2, 1) := by decide +kernel
theorem dX13_factsOf_78 : decode cX13_factsOf 78 = .ok (.iinc 3 1, 3) := by decide +kernel
theorem dX13_factsOf_81 : decode cX13_factsOf 81 = .ok (.goto (-77), 3) := by decide +kernel
theorem dX13_factsOf_84 : decode cX13_factsOf 84 = .ok (.iload_n 2, 1) := by decide +kernel
theorem dX13_factsOf_85 : decode cX13_factsOf 85 = .ok (.ireturn, 1) := by decide +kernel
theorem dX13_lateOf_0 : decode cX13_lateOf 0 = .ok (.iconst 0, 1) := by decide +kernel
theorem dX13_lateOf_1 : decode cX13_lateOf 1 = .ok (.istore_n 2, 1) := by decide +kernel
theorem dX13_lateOf_2 : decode cX13_lateOf 2 = .ok (.iconst 0, 1) := by decide +kernel
theorem dX13_lateOf_3 : decode cX13_lateOf 3 = .ok (.istore_n 3, 1) := by decide +kernel
theorem dX13_lateOf_4 : decode cX13_lateOf 4 = .ok (.iload_n 3, 1) := by decide +kernel
theorem dX13_lateOf_5 : decode cX13_lateOf 5 = .ok (.aload_n 0, 1) := by decide +kernel
theorem dX13_lateOf_6 : decode cX13_lateOf 6 = .ok (.getfield 418, 3) := by decide +kernel
theorem dX13_lateOf_9 : decode cX13_lateOf 9 = .ok (.if_icmp .ge 53, 3) := by decide +kernel
theorem dX13_lateOf_12 : decode cX13_lateOf 12 = .ok (.iload_n 2, 1) := by decide +kernel
theorem dX13_lateOf_13 : decode cX13_lateOf 13 = .ok (.aload_n 0, 1) := by decide +kernel
theorem dX13_lateOf_14 : decode cX13_lateOf 14 = .ok (.getfield 90, 3) := by decide +kernel
theorem dX13_lateOf_17 : decode cX13_lateOf 17 = .ok (.iload_n 3, 1) := by decide +kernel
theorem dX13_lateOf_18 : decode cX13_lateOf 18 = .ok (.iaload, 1) := by decide +kernel
theorem dX13_lateOf_19 : decode cX13_lateOf 19 = .ok (.ifCond .ne 34, 3) := by decide +kernel
theorem dX13_lateOf_22 : decode cX13_lateOf 22 = .ok (.aload_n 0, 1) := by decide +kernel
theorem dX13_lateOf_23 : decode cX13_lateOf 23 = .ok (.getfield 105, 3) := by decide +kernel
theorem dX13_lateOf_26 : decode cX13_lateOf 26 = .ok (.iload_n 3, 1) := by decide +kernel
theorem dX13_lateOf_27 : decode cX13_lateOf 27 = .ok (.iaload, 1) := by decide +kernel
theorem dX13_lateOf_28 : decode cX13_lateOf 28 = .ok (.iload_n 1, 1) := by decide +kernel
theorem dX13_lateOf_29 : decode cX13_lateOf 29 = .ok (.if_icmp .ne 24, 3) := by decide +kernel
theorem dX13_lateOf_32 : decode cX13_lateOf 32 = .ok (.aload_n 0, 1) := by decide +kernel
theorem dX13_lateOf_33 : decode cX13_lateOf 33 = .ok (.getfield 108, 3) := by decide +kernel
theorem dX13_lateOf_36 : decode cX13_lateOf 36 = .ok (.iload_n 3, 1) := by decide +kernel
theorem dX13_lateOf_37 : decode cX13_lateOf 37 = .ok (.baload, 1) := by decide +kernel
theorem dX13_lateOf_38 : decode cX13_lateOf 38 = .ok (.ifCond .ne 15, 3) := by decide +kernel
theorem dX13_lateOf_41 : decode cX13_lateOf 41 = .ok (.aload_n 0, 1) := by decide +kernel
theorem dX13_lateOf_42 : decode cX13_lateOf 42 = .ok (.iload_n 3, 1) := by decide +kernel
theorem dX13_lateOf_43 : decode cX13_lateOf 43 = .ok (.invokevirtual 458, 3) := by decide +kernel
theorem dX13_lateOf_46 : decode cX13_lateOf 46 = .ok (.ifCond .ne 7, 3) := by decide +kernel
theorem dX13_lateOf_49 : decode cX13_lateOf 49 = .ok (.iconst 1, 1) := by decide +kernel
theorem dX13_lateOf_50 : decode cX13_lateOf 50 = .ok (.goto 4, 3) := by decide +kernel
theorem dX13_lateOf_53 : decode cX13_lateOf 53 = .ok (.iconst 0, 1) := by decide +kernel
theorem dX13_lateOf_54 : decode cX13_lateOf 54 = .ok (.iadd, 1) := by decide +kernel
theorem dX13_lateOf_55 : decode cX13_lateOf 55 = .ok (.istore_n 2, 1) := by decide +kernel
theorem dX13_lateOf_56 : decode cX13_lateOf 56 = .ok (.iinc 3 1, 3) := by decide +kernel
theorem dX13_lateOf_59 : decode cX13_lateOf 59 = .ok (.goto (-55), 3) := by decide +kernel
theorem dX13_lateOf_62 : decode cX13_lateOf 62 = .ok (.iload_n 2, 1) := by decide +kernel
theorem dX13_lateOf_63 : decode cX13_lateOf 63 = .ok (.ireturn, 1) := by decide +kernel
theorem dX13_knownOf_0 : decode cX13_knownOf 0 = .ok (.aload_n 0, 1) := by decide +kernel
theorem dX13_knownOf_1 : decode cX13_knownOf 1 = .ok (.getfield 476, 3) := by decide +kernel
theorem dX13_knownOf_4 : decode cX13_knownOf 4 = .ok (.iconst 1, 1) := by decide +kernel
theorem dX13_knownOf_5 : decode cX13_knownOf 5 = .ok (.isub, 1) := by decide +kernel
theorem dX13_knownOf_6 : decode cX13_knownOf 6 = .ok (.istore_n 3, 1) := by decide +kernel
theorem dX13_knownOf_7 : decode cX13_knownOf 7 = .ok (.iload_n 3, 1) := by decide +kernel
theorem dX13_knownOf_8 : decode cX13_knownOf 8 = .ok (.ifCond .lt 31, 3) := by decide +kernel
theorem dX13_knownOf_11 : decode cX13_knownOf 11 = .ok (.aload_n 0, 1) := by decide +kernel
theorem dX13_knownOf_12 : decode cX13_knownOf 12 = .ok (.getfield 162, 3) := by decide +kernel
theorem dX13_knownOf_15 : decode cX13_knownOf 15 = .ok (.iload_n 3, 1) := by decide +kernel
theorem dX13_knownOf_16 : decode cX13_knownOf 16 = .ok (.iaload, 1) := by decide +kernel
theorem dX13_knownOf_17 : decode cX13_knownOf 17 = .ok (.iload_n 1, 1) := by decide +kernel
theorem dX13_knownOf_18 : decode cX13_knownOf 18 = .ok (.if_icmp .ne 15, 3) := by decide +kernel
theorem dX13_knownOf_21 : decode cX13_knownOf 21 = .ok (.aload_n 0, 1) := by decide +kernel
theorem dX13_knownOf_22 : decode cX13_knownOf 22 = .ok (.getfield 171, 3) := by decide +kernel
theorem dX13_knownOf_25 : decode cX13_knownOf 25 = .ok (.iload_n 3, 1) := by decide +kernel
theorem dX13_knownOf_26 : decode cX13_knownOf 26 = .ok (.iaload, 1) := by decide +kernel
theorem dX13_knownOf_27 : decode cX13_knownOf 27 = .ok (.iload_n 2, 1) := by decide +kernel
theorem dX13_knownOf_28 : decode cX13_knownOf 28 = .ok (.if_icmp .gt 5, 3) := by decide +kernel
theorem dX13_knownOf_31 : decode cX13_knownOf 31 = .ok (.iload_n 3, 1) := by decide +kernel
theorem dX13_knownOf_32 : decode cX13_knownOf 32 = .ok (.ireturn, 1) := by decide +kernel
theorem dX13_knownOf_33 : decode cX13_knownOf 33 = .ok (.iinc 3 (-1), 3) := by decide +kernel
theorem dX13_knownOf_36 : decode cX13_knownOf 36 = .ok (.goto (-29), 3) := by decide +kernel
theorem dX13_knownOf_39 : decode cX13_knownOf 39 = .ok (.iconst (-1), 1) := by decide +kernel
theorem dX13_knownOf_40 : decode cX13_knownOf 40 = .ok (.ireturn, 1) := by decide +kernel
theorem dX13_valueOf_0 : decode cX13_valueOf 0 = .ok (.aload_n 0, 1) := by decide +kernel
theorem dX13_valueOf_1 : decode cX13_valueOf 1 = .ok (.iload_n 1, 1) := by decide +kernel
theorem dX13_valueOf_2 : decode cX13_valueOf 2 = .ok (.iload_n 2, 1) := by decide +kernel
theorem dX13_valueOf_3 : decode cX13_valueOf 3 = .ok (.invokevirtual 479, 3) := by decide +kernel
theorem dX13_valueOf_6 : decode cX13_valueOf 6 = .ok (.istore_n 3, 1) := by decide +kernel
theorem dX13_valueOf_7 : decode cX13_valueOf 7 = .ok (.iload_n 3, 1) := by decide +kernel
theorem dX13_valueOf_8 : decode cX13_valueOf 8 = .ok (.iconst (-1), 1) := by decide +kernel
theorem dX13_valueOf_9 : decode cX13_valueOf 9 = .ok (.if_icmp .ne 7, 3) := by decide +kernel
theorem dX13_valueOf_12 : decode cX13_valueOf 12 = .ok (.iconst (-1), 1) := by decide +kernel
theorem dX13_valueOf_13 : decode cX13_valueOf 13 = .ok (.goto 9, 3) := by decide +kernel
theorem dX13_valueOf_16 : decode cX13_valueOf 16 = .ok (.aload_n 0, 1) := by decide +kernel
theorem dX13_valueOf_17 : decode cX13_valueOf 17 = .ok (.getfield 165, 3) := by decide +kernel
theorem dX13_valueOf_20 : decode cX13_valueOf 20 = .ok (.iload_n 3, 1) := by decide +kernel
theorem dX13_valueOf_21 : decode cX13_valueOf 21 = .ok (.iaload, 1) := by decide +kernel
theorem dX13_valueOf_22 : decode cX13_valueOf 22 = .ok (.ireturn, 1) := by decide +kernel
theorem dX13_hangs_0 : decode cX13_hangs 0 = .ok (.aload_n 0, 1) := by decide +kernel
theorem dX13_hangs_1 : decode cX13_hangs 1 = .ok (.getfield 90, 3) := by decide +kernel
theorem dX13_hangs_4 : decode cX13_hangs 4 = .ok (.iload_n 1, 1) := by decide +kernel
theorem dX13_hangs_5 : decode cX13_hangs 5 = .ok (.iaload, 1) := by decide +kernel
theorem dX13_hangs_6 : decode cX13_hangs 6 = .ok (.ifCond .ne 48, 3) := by decide +kernel
theorem dX13_hangs_9 : decode cX13_hangs 9 = .ok (.aload_n 0, 1) := by decide +kernel
theorem dX13_hangs_10 : decode cX13_hangs 10 = .ok (.getfield 105, 3) := by decide +kernel
theorem dX13_hangs_13 : decode cX13_hangs 13 = .ok (.iload_n 1, 1) := by decide +kernel
theorem dX13_hangs_14 : decode cX13_hangs 14 = .ok (.iaload, 1) := by decide +kernel
theorem dX13_hangs_15 : decode cX13_hangs 15 = .ok (.iconst (-1), 1) := by decide +kernel
theorem dX13_hangs_16 : decode cX13_hangs 16 = .ok (.if_icmp .eq 38, 3) := by decide +kernel
theorem dX13_hangs_19 : decode cX13_hangs 19 = .ok (.aload_n 0, 1) := by decide +kernel
theorem dX13_hangs_20 : decode cX13_hangs 20 = .ok (.getfield 129, 3) := by decide +kernel
theorem dX13_hangs_23 : decode cX13_hangs 23 = .ok (.aload_n 0, 1) := by decide +kernel
theorem dX13_hangs_24 : decode cX13_hangs 24 = .ok (.getfield 105, 3) := by decide +kernel
theorem dX13_hangs_27 : decode cX13_hangs 27 = .ok (.iload_n 1, 1) := by decide +kernel
theorem dX13_hangs_28 : decode cX13_hangs 28 = .ok (.iaload, 1) := by decide +kernel
theorem dX13_hangs_29 : decode cX13_hangs 29 = .ok (.baload, 1) := by decide +kernel
theorem dX13_hangs_30 : decode cX13_hangs 30 = .ok (.ifCond .eq 24, 3) := by decide +kernel
theorem dX13_hangs_33 : decode cX13_hangs 33 = .ok (.aload_n 0, 1) := by decide +kernel
theorem dX13_hangs_34 : decode cX13_hangs 34 = .ok (.getfield 108, 3) := by decide +kernel
theorem dX13_hangs_37 : decode cX13_hangs 37 = .ok (.iload_n 1, 1) := by decide +kernel
theorem dX13_hangs_38 : decode cX13_hangs 38 = .ok (.baload, 1) := by decide +kernel
theorem dX13_hangs_39 : decode cX13_hangs 39 = .ok (.ifCond .ne 15, 3) := by decide +kernel
theorem dX13_hangs_42 : decode cX13_hangs 42 = .ok (.aload_n 0, 1) := by decide +kernel
theorem dX13_hangs_43 : decode cX13_hangs 43 = .ok (.iload_n 1, 1) := by decide +kernel
theorem dX13_hangs_44 : decode cX13_hangs 44 = .ok (.invokevirtual 458, 3) := by decide +kernel
theorem dX13_hangs_47 : decode cX13_hangs 47 = .ok (.ifCond .ne 7, 3) := by decide +kernel
theorem dX13_hangs_50 : decode cX13_hangs 50 = .ok (.iconst 1, 1) := by decide +kernel
theorem dX13_hangs_51 : decode cX13_hangs 51 = .ok (.goto 4, 3) := by decide +kernel
theorem dX13_hangs_54 : decode cX13_hangs 54 = .ok (.iconst 0, 1) := by decide +kernel
theorem dX13_hangs_55 : decode cX13_hangs 55 = .ok (.ireturn, 1) := by decide +kernel
theorem dX13_die_0 : decode cX13_die 0 = .ok (.aload_n 0, 1) := by decide +kernel
theorem dX13_die_1 : decode cX13_die 1 = .ok (.iload_n 1, 1) := by decide +kernel
theorem dX13_die_2 : decode cX13_die 2 = .ok (.invokevirtual 449, 3) := by decide +kernel
theorem dX13_die_5 : decode cX13_die 5 = .ok (.ifCond .eq 12, 3) := by decide +kernel
theorem dX13_die_8 : decode cX13_die 8 = .ok (.aload_n 0, 1) := by decide +kernel
theorem dX13_die_9 : decode cX13_die 9 = .ok (.getfield 129, 3) := by decide +kernel
theorem dX13_die_12 : decode cX13_die 12 = .ok (.iload_n 1, 1) := by decide +kernel
theorem dX13_die_13 : decode cX13_die 13 = .ok (.baload, 1) := by decide +kernel
theorem dX13_die_14 : decode cX13_die 14 = .ok (.ifCond .eq 5, 3) := by decide +kernel
theorem dX13_die_17 : decode cX13_die 17 = .ok (.iconst (-1), 1) := by decide +kernel
theorem dX13_die_18 : decode cX13_die 18 = .ok (.ireturn, 1) := by decide +kernel
theorem dX13_die_19 : decode cX13_die 19 = .ok (.aload_n 0, 1) := by decide +kernel
theorem dX13_die_20 : decode cX13_die 20 = .ok (.getfield 129, 3) := by decide +kernel
theorem dX13_die_23 : decode cX13_die 23 = .ok (.iload_n 1, 1) := by decide +kernel
theorem dX13_die_24 : decode cX13_die 24 = .ok (.iconst 1, 1) := by decide +kernel
theorem dX13_die_25 : decode cX13_die 25 = .ok (.bastore, 1) := by decide +kernel
theorem dX13_die_26 : decode cX13_die 26 = .ok (.iconst 0, 1) := by decide +kernel
theorem dX13_die_27 : decode cX13_die 27 = .ok (.istore_n 2, 1) := by decide +kernel
theorem dX13_die_28 : decode cX13_die 28 = .ok (.iconst 0, 1) := by decide +kernel
theorem dX13_die_29 : decode cX13_die 29 = .ok (.istore_n 3, 1) := by decide +kernel
theorem dX13_die_30 : decode cX13_die 30 = .ok (.iload_n 3, 1) := by decide +kernel
theorem dX13_die_31 : decode cX13_die 31 = .ok (.aload_n 0, 1) := by decide +kernel
theorem dX13_die_32 : decode cX13_die 32 = .ok (.getfield 418, 3) := by decide +kernel
theorem dX13_die_35 : decode cX13_die 35 = .ok (.if_icmp .ge 35, 3) := by decide +kernel
theorem dX13_die_38 : decode cX13_die 38 = .ok (.iload_n 2, 1) := by decide +kernel
theorem dX13_die_39 : decode cX13_die 39 = .ok (.aload_n 0, 1) := by decide +kernel
theorem dX13_die_40 : decode cX13_die 40 = .ok (.iload_n 3, 1) := by decide +kernel
theorem dX13_die_41 : decode cX13_die 41 = .ok (.invokevirtual 485, 3) := by decide +kernel
theorem dX13_die_44 : decode cX13_die 44 = .ok (.ifCond .eq 17, 3) := by decide +kernel
theorem dX13_die_47 : decode cX13_die 47 = .ok (.aload_n 0, 1) := by decide +kernel
theorem dX13_die_48 : decode cX13_die 48 = .ok (.getfield 105, 3) := by decide +kernel
theorem dX13_die_51 : decode cX13_die 51 = .ok (.iload_n 3, 1) := by decide +kernel
theorem dX13_die_52 : decode cX13_die 52 = .ok (.iaload, 1) := by decide +kernel
theorem dX13_die_53 : decode cX13_die 53 = .ok (.iload_n 1, 1) := by decide +kernel
theorem dX13_die_54 : decode cX13_die 54 = .ok (.if_icmp .ne 7, 3) := by decide +kernel
theorem dX13_die_57 : decode cX13_die 57 = .ok (.iconst 1, 1) := by decide +kernel
theorem dX13_die_58 : decode cX13_die 58 = .ok (.goto 4, 3) := by decide +kernel
theorem dX13_die_61 : decode cX13_die 61 = .ok (.iconst 0, 1) := by decide +kernel
theorem dX13_die_62 : decode cX13_die 62 = .ok (.iadd, 1) := by decide +kernel
theorem dX13_die_63 : decode cX13_die 63 = .ok (.istore_n 2, 1) := by decide +kernel
theorem dX13_die_64 : decode cX13_die 64 = .ok (.iinc 3 1, 3) := by decide +kernel
theorem dX13_die_67 : decode cX13_die 67 = .ok (.goto (-37), 3) := by decide +kernel
theorem dX13_die_70 : decode cX13_die 70 = .ok (.iload_n 2, 1) := by decide +kernel
theorem dX13_die_71 : decode cX13_die 71 = .ok (.ireturn, 1) := by decide +kernel
theorem dX13_tell_0 : decode cX13_tell 0 = .ok (.iload_n 1, 1) := by decide +kernel
theorem dX13_tell_1 : decode cX13_tell 1 = .ok (.iconst 0, 1) := by decide +kernel
theorem dX13_tell_2 : decode cX13_tell 2 = .ok (.bipush 39, 2) := by decide +kernel
theorem dX13_tell_4 : decode cX13_tell 4 = .ok (.invokestatic 256, 3) := by decide +kernel
theorem dX13_tell_7 : decode cX13_tell 7 = .ok (.ifCond .eq 28, 3) := by decide +kernel
theorem dX13_tell_10 : decode cX13_tell 10 = .ok (.iload_n 2, 1) := by decide +kernel
theorem dX13_tell_11 : decode cX13_tell 11 = .ok (.iconst 0, 1) := by decide +kernel
theorem dX13_tell_12 : decode cX13_tell 12 = .ok (.sipush 999, 3) := by decide +kernel
theorem dX13_tell_15 : decode cX13_tell 15 = .ok (.invokestatic 256, 3) := by decide +kernel
theorem dX13_tell_18 : decode cX13_tell 18 = .ok (.ifCond .eq 17, 3) := by decide +kernel
theorem dX13_tell_21 : decode cX13_tell 21 = .ok (.iload_n 3, 1) := by decide +kernel
theorem dX13_tell_22 : decode cX13_tell 22 = .ok (.ifCond .lt 13, 3) := by decide +kernel
theorem dX13_tell_25 : decode cX13_tell 25 = .ok (.aload_n 0, 1) := by decide +kernel
theorem dX13_tell_26 : decode cX13_tell 26 = .ok (.getfield 476, 3) := by decide +kernel
theorem dX13_tell_29 : decode cX13_tell 29 = .ok (.sipush 600, 3) := by decide +kernel
theorem dX13_tell_32 : decode cX13_tell 32 = .ok (.if_icmp .ne 5, 3) := by decide +kernel
theorem dX13_tell_35 : decode cX13_tell 35 = .ok (.iconst 0, 1) := by decide +kernel
theorem dX13_tell_36 : decode cX13_tell 36 = .ok (.ireturn, 1) := by decide +kernel
theorem dX13_tell_37 : decode cX13_tell 37 = .ok (.aload_n 0, 1) := by decide +kernel
theorem dX13_tell_38 : decode cX13_tell 38 = .ok (.getfield 162, 3) := by decide +kernel
theorem dX13_tell_41 : decode cX13_tell 41 = .ok (.aload_n 0, 1) := by decide +kernel
theorem dX13_tell_42 : decode cX13_tell 42 = .ok (.getfield 476, 3) := by decide +kernel
theorem dX13_tell_45 : decode cX13_tell 45 = .ok (.iload_n 1, 1) := by decide +kernel
theorem dX13_tell_46 : decode cX13_tell 46 = .ok (.iastore, 1) := by decide +kernel
theorem dX13_tell_47 : decode cX13_tell 47 = .ok (.aload_n 0, 1) := by decide +kernel
theorem dX13_tell_48 : decode cX13_tell 48 = .ok (.getfield 165, 3) := by decide +kernel
theorem dX13_tell_51 : decode cX13_tell 51 = .ok (.aload_n 0, 1) := by decide +kernel
theorem dX13_tell_52 : decode cX13_tell 52 = .ok (.getfield 476, 3) := by decide +kernel
theorem dX13_tell_55 : decode cX13_tell 55 = .ok (.iload_n 2, 1) := by decide +kernel
theorem dX13_tell_56 : decode cX13_tell 56 = .ok (.iastore, 1) := by decide +kernel
theorem dX13_tell_57 : decode cX13_tell 57 = .ok (.aload_n 0, 1) := by decide +kernel
theorem dX13_tell_58 : decode cX13_tell 58 = .ok (.getfield 168, 3) := by decide +kernel
theorem dX13_tell_61 : decode cX13_tell 61 = .ok (.aload_n 0, 1) := by decide +kernel
theorem dX13_tell_62 : decode cX13_tell 62 = .ok (.getfield 476, 3) := by decide +kernel
theorem dX13_tell_65 : decode cX13_tell 65 = .ok (.iload_n 3, 1) := by decide +kernel
theorem dX13_tell_66 : decode cX13_tell 66 = .ok (.iastore, 1) := by decide +kernel
theorem dX13_tell_67 : decode cX13_tell 67 = .ok (.aload_n 0, 1) := by decide +kernel
theorem dX13_tell_68 : decode cX13_tell 68 = .ok (.getfield 171, 3) := by decide +kernel
theorem dX13_tell_71 : decode cX13_tell 71 = .ok (.aload_n 0, 1) := by decide +kernel
theorem dX13_tell_72 : decode cX13_tell 72 = .ok (.getfield 476, 3) := by decide +kernel
theorem dX13_tell_75 : decode cX13_tell 75 = .ok (.aload_n 0, 1) := by decide +kernel
theorem dX13_tell_76 : decode cX13_tell 76 = .ok (.getfield 383, 3) := by decide +kernel
theorem dX13_tell_79 : decode cX13_tell 79 = .ok (.iastore, 1) := by decide +kernel
theorem dX13_tell_80 : decode cX13_tell 80 = .ok (.aload_n 0, 1) := by decide +kernel
theorem dX13_tell_81 : decode cX13_tell 81 = .ok (.dup, 1) := by decide +kernel
theorem dX13_tell_82 : decode cX13_tell 82 = .ok (.getfield 476, 3) := by decide +kernel
theorem dX13_tell_85 : decode cX13_tell 85 = .ok (.iconst 1, 1) := by decide +kernel
theorem dX13_tell_86 : decode cX13_tell 86 = .ok (.iadd, 1) := by decide +kernel
theorem dX13_tell_87 : decode cX13_tell 87 = .ok (.putfield 476, 3) := by decide +kernel
theorem dX13_tell_90 : decode cX13_tell 90 = .ok (.iconst 1, 1) := by decide +kernel
theorem dX13_tell_91 : decode cX13_tell 91 = .ok (.ireturn, 1) := by decide +kernel
theorem dX13_known_0 : decode cX13_known 0 = .ok (.iload_n 1, 1) := by decide +kernel
theorem dX13_known_1 : decode cX13_known 1 = .ok (.iconst 0, 1) := by decide +kernel
theorem dX13_known_2 : decode cX13_known 2 = .ok (.bipush 39, 2) := by decide +kernel
theorem dX13_known_4 : decode cX13_known 4 = .ok (.invokestatic 256, 3) := by decide +kernel
theorem dX13_known_7 : decode cX13_known 7 = .ok (.ifCond .eq 23, 3) := by decide +kernel
theorem dX13_known_10 : decode cX13_known 10 = .ok (.iload_n 2, 1) := by decide +kernel
theorem dX13_known_11 : decode cX13_known 11 = .ok (.iconst 0, 1) := by decide +kernel
theorem dX13_known_12 : decode cX13_known 12 = .ok (.sipush 2000, 3) := by decide +kernel
theorem dX13_known_15 : decode cX13_known 15 = .ok (.invokestatic 256, 3) := by decide +kernel
theorem dX13_known_18 : decode cX13_known 18 = .ok (.ifCond .eq 12, 3) := by decide +kernel
theorem dX13_known_21 : decode cX13_known 21 = .ok (.iload_n 3, 1) := by decide +kernel
theorem dX13_known_22 : decode cX13_known 22 = .ok (.iconst 0, 1) := by decide +kernel
theorem dX13_known_23 : decode cX13_known 23 = .ok (.iconst 1, 1) := by decide +kernel
theorem dX13_known_24 : decode cX13_known 24 = .ok (.invokestatic 256, 3) := by decide +kernel
theorem dX13_known_27 : decode cX13_known 27 = .ok (.ifCond .ne 5, 3) := by decide +kernel
theorem dX13_known_30 : decode cX13_known 30 = .ok (.iconst (-1), 1) := by decide +kernel
theorem dX13_known_31 : decode cX13_known 31 = .ok (.ireturn, 1) := by decide +kernel
theorem dX13_known_32 : decode cX13_known 32 = .ok (.aload_n 0, 1) := by decide +kernel
theorem dX13_known_33 : decode cX13_known 33 = .ok (.iload_n 1, 1) := by decide +kernel
theorem dX13_known_34 : decode cX13_known 34 = .ok (.iload_n 2, 1) := by decide +kernel
theorem dX13_known_35 : decode cX13_known 35 = .ok (.invokevirtual 479, 3) := by decide +kernel
theorem dX13_known_38 : decode cX13_known 38 = .ok (.istore 4, 2) := by decide +kernel
theorem dX13_known_40 : decode cX13_known 40 = .ok (.iload 4, 2) := by decide +kernel
theorem dX13_known_42 : decode cX13_known 42 = .ok (.iconst (-1), 1) := by decide +kernel
theorem dX13_known_43 : decode cX13_known 43 = .ok (.if_icmp .ne 7, 3) := by decide +kernel
theorem dX13_known_46 : decode cX13_known 46 = .ok (.iconst (-1), 1) := by decide +kernel
theorem dX13_known_47 : decode cX13_known 47 = .ok (.goto 24, 3) := by decide +kernel
theorem dX13_known_50 : decode cX13_known 50 = .ok (.iload_n 3, 1) := by decide +kernel
theorem dX13_known_51 : decode cX13_known 51 = .ok (.ifCond .ne 13, 3) := by decide +kernel
theorem dX13_known_54 : decode cX13_known 54 = .ok (.aload_n 0, 1) := by decide +kernel
theorem dX13_known_55 : decode cX13_known 55 = .ok (.getfield 165, 3) := by decide +kernel
theorem dX13_known_58 : decode cX13_known 58 = .ok (.iload 4, 2) := by decide +kernel
theorem dX13_known_60 : decode cX13_known 60 = .ok (.iaload, 1) := by decide +kernel
theorem dX13_known_61 : decode cX13_known 61 = .ok (.goto 10, 3) := by decide +kernel
theorem dX13_known_64 : decode cX13_known 64 = .ok (.aload_n 0, 1) := by decide +kernel
theorem dX13_known_65 : decode cX13_known 65 = .ok (.getfield 168, 3) := by decide +kernel
theorem dX13_known_68 : decode cX13_known 68 = .ok (.iload 4, 2) := by decide +kernel
theorem dX13_known_70 : decode cX13_known 70 = .ok (.iaload, 1) := by decide +kernel
theorem dX13_known_71 : decode cX13_known 71 = .ok (.ireturn, 1) := by decide +kernel
theorem dX13_isLine_0 : decode cX13_isLine 0 = .ok (.iload_n 1, 1) := by decide +kernel
theorem dX13_isLine_1 : decode cX13_isLine 1 = .ok (.iconst 0, 1) := by decide +kernel
theorem dX13_isLine_2 : decode cX13_isLine 2 = .ok (.aload_n 0, 1) := by decide +kernel
theorem dX13_isLine_3 : decode cX13_isLine 3 = .ok (.getfield 452, 3) := by decide +kernel
theorem dX13_isLine_6 : decode cX13_isLine 6 = .ok (.iconst 1, 1) := by decide +kernel
theorem dX13_isLine_7 : decode cX13_isLine 7 = .ok (.isub, 1) := by decide +kernel
theorem dX13_isLine_8 : decode cX13_isLine 8 = .ok (.invokestatic 256, 3) := by decide +kernel
theorem dX13_isLine_11 : decode cX13_isLine 11 = .ok (.ireturn, 1) := by decide +kernel
theorem dX13_isSetLine_0 : decode cX13_isSetLine 0 = .ok (.aload_n 0, 1) := by decide +kernel
theorem dX13_isSetLine_1 : decode cX13_isSetLine 1 = .ok (.getfield 114, 3) := by decide +kernel
theorem dX13_isSetLine_4 : decode cX13_isSetLine 4 = .ok (.aload_n 0, 1) := by decide +kernel
theorem dX13_isSetLine_5 : decode cX13_isSetLine 5 = .ok (.getfield 135, 3) := by decide +kernel
theorem dX13_isSetLine_8 : decode cX13_isSetLine 8 = .ok (.iload_n 1, 1) := by decide +kernel
theorem dX13_isSetLine_9 : decode cX13_isSetLine 9 = .ok (.iaload, 1) := by decide +kernel
theorem dX13_isSetLine_10 : decode cX13_isSetLine 10 = .ok (.iaload, 1) := by decide +kernel
theorem dX13_isSetLine_11 : decode cX13_isSetLine 11 = .ok (.iconst (-1), 1) := by decide +kernel
theorem dX13_isSetLine_12 : decode cX13_isSetLine 12 = .ok (.if_icmp .eq 7, 3) := by decide +kernel
theorem dX13_isSetLine_15 : decode cX13_isSetLine 15 = .ok (.iconst 1, 1) := by decide +kernel
theorem dX13_isSetLine_16 : decode cX13_isSetLine 16 = .ok (.goto 4, 3) := by decide +kernel
theorem dX13_isSetLine_19 : decode cX13_isSetLine 19 = .ok (.iconst 0, 1) := by decide +kernel
theorem dX13_isSetLine_20 : decode cX13_isSetLine 20 = .ok (.ireturn, 1) := by decide +kernel
theorem dX13_keeps_0 : decode cX13_keeps 0 = .ok (.aload_n 0, 1) := by decide +kernel
theorem dX13_keeps_1 : decode cX13_keeps 1 = .ok (.getfield 147, 3) := by decide +kernel
theorem dX13_keeps_4 : decode cX13_keeps 4 = .ok (.iload_n 1, 1) := by decide +kernel
theorem dX13_keeps_5 : decode cX13_keeps 5 = .ok (.iaload, 1) := by decide +kernel
theorem dX13_keeps_6 : decode cX13_keeps 6 = .ok (.istore 4, 2) := by decide +kernel
theorem dX13_keeps_8 : decode cX13_keeps 8 = .ok (.iconst 0, 1) := by decide +kernel
theorem dX13_keeps_9 : decode cX13_keeps 9 = .ok (.istore 5, 2) := by decide +kernel
theorem dX13_keeps_11 : decode cX13_keeps 11 = .ok (.iload 5, 2) := by decide +kernel
theorem dX13_keeps_13 : decode cX13_keeps 13 = .ok (.aload_n 0, 1) := by decide +kernel
theorem dX13_keeps_14 : decode cX13_keeps 14 = .ok (.getfield 488, 3) := by decide +kernel
theorem dX13_keeps_17 : decode cX13_keeps 17 = .ok (.if_icmp .ge 82, 3) := by decide +kernel
theorem dX13_keeps_20 : decode cX13_keeps 20 = .ok (.aload_n 0, 1) := by decide +kernel
theorem dX13_keeps_21 : decode cX13_keeps 21 = .ok (.getfield 174, 3) := by decide +kernel
theorem dX13_keeps_24 : decode cX13_keeps 24 = .ok (.iload 5, 2) := by decide +kernel
theorem dX13_keeps_26 : decode cX13_keeps 26 = .ok (.iaload, 1) := by decide +kernel
theorem dX13_keeps_27 : decode cX13_keeps 27 = .ok (.iload_n 1, 1) := by decide +kernel
theorem dX13_keeps_28 : decode cX13_keeps 28 = .ok (.if_icmp .ne 65, 3) := by decide +kernel
theorem dX13_keeps_31 : decode cX13_keeps 31 = .ok (.aload_n 0, 1) := by decide +kernel
theorem dX13_keeps_32 : decode cX13_keeps 32 = .ok (.getfield 183, 3) := by decide +kernel
theorem dX13_keeps_35 : decode cX13_keeps 35 = .ok (.iload 5, 2) := by decide +kernel
theorem dX13_keeps_37 : decode cX13_keeps 37 = .ok (.iaload, 1) := by decide +kernel
theorem dX13_keeps_38 : decode cX13_keeps 38 = .ok (.iload_n 2, 1) := by decide +kernel
theorem dX13_keeps_39 : decode cX13_keeps 39 = .ok (.if_icmp .le 6, 3) := by decide +kernel
theorem dX13_keeps_42 : decode cX13_keeps 42 = .ok (.goto 51, 3) := by decide +kernel
theorem dX13_keeps_45 : decode cX13_keeps 45 = .ok (.iload 5, 2) := by decide +kernel
theorem dX13_keeps_47 : decode cX13_keeps 47 = .ok (.iload_n 3, 1) := by decide +kernel
theorem dX13_keeps_48 : decode cX13_keeps 48 = .ok (.if_icmp .ne 24, 3) := by decide +kernel
theorem dX13_keeps_51 : decode cX13_keeps 51 = .ok (.aload_n 0, 1) := by decide +kernel
theorem dX13_keeps_52 : decode cX13_keeps 52 = .ok (.aload_n 0, 1) := by decide +kernel
theorem dX13_keeps_53 : decode cX13_keeps 53 = .ok (.getfield 177, 3) := by decide +kernel
theorem dX13_keeps_56 : decode cX13_keeps 56 = .ok (.iload 5, 2) := by decide +kernel
theorem dX13_keeps_58 : decode cX13_keeps 58 = .ok (.iaload, 1) := by decide +kernel
theorem dX13_keeps_59 : decode cX13_keeps 59 = .ok (.iload 4, 2) := by decide +kernel
theorem dX13_keeps_61 : decode cX13_keeps 61 = .ok (.if_icmp .ne 7, 3) := by decide +kernel
theorem dX13_keeps_64 : decode cX13_keeps 64 = .ok (.iconst 0, 1) := by decide +kernel
theorem dX13_keeps_65 : decode cX13_keeps 65 = .ok (.goto 4, 3) := by decide +kernel
theorem dX13_keeps_68 : decode cX13_keeps 68 = .ok (.iconst 1, 1) := by decide +kernel
theorem dX13_keeps_69 : decode cX13_keeps 69 = .ok (.putfield 491, 3) := by decide +kernel
theorem dX13_keeps_72 : decode cX13_keeps 72 = .ok (.aload_n 0, 1) := by decide +kernel
theorem dX13_keeps_73 : decode cX13_keeps 73 = .ok (.getfield 177, 3) := by decide +kernel
theorem dX13_keeps_76 : decode cX13_keeps 76 = .ok (.iload 5, 2) := by decide +kernel
theorem dX13_keeps_78 : decode cX13_keeps 78 = .ok (.iaload, 1) := by decide +kernel
theorem dX13_keeps_79 : decode cX13_keeps 79 = .ok (.iload 4, 2) := by decide +kernel
theorem dX13_keeps_81 : decode cX13_keeps 81 = .ok (.if_icmp .ne 12, 3) := by decide +kernel
theorem dX13_keeps_84 : decode cX13_keeps 84 = .ok (.aload_n 0, 1) := by decide +kernel
theorem dX13_keeps_85 : decode cX13_keeps 85 = .ok (.getfield 180, 3) := by decide +kernel
theorem dX13_keeps_88 : decode cX13_keeps 88 = .ok (.iload 5, 2) := by decide +kernel
theorem dX13_keeps_90 : decode cX13_keeps 90 = .ok (.iaload, 1) := by decide +kernel
theorem dX13_keeps_91 : decode cX13_keeps 91 = .ok (.istore 4, 2) := by decide +kernel
theorem dX13_keeps_93 : decode cX13_keeps 93 = .ok (.iinc 5 1, 3) := by decide +kernel
theorem dX13_keeps_96 : decode cX13_keeps 96 = .ok (.goto (-85), 3) := by decide +kernel
theorem dX13_keeps_99 : decode cX13_keeps 99 = .ok (.iload 4, 2) := by decide +kernel
theorem dX13_keeps_101 : decode cX13_keeps 101 = .ok (.ireturn, 1) := by decide +kernel
theorem dX13_mend_0 : decode cX13_mend 0 = .ok (.aload_n 0, 1) := by decide +kernel
theorem dX13_mend_1 : decode cX13_mend 1 = .ok (.iload_n 1, 1) := by decide +kernel
theorem dX13_mend_2 : decode cX13_mend 2 = .ok (.invokevirtual 497, 3) := by decide +kernel
theorem dX13_mend_5 : decode cX13_mend 5 = .ok (.ifCond .eq 21, 3) := by decide +kernel
theorem dX13_mend_8 : decode cX13_mend 8 = .ok (.aload_n 0, 1) := by decide +kernel
theorem dX13_mend_9 : decode cX13_mend 9 = .ok (.iload_n 1, 1) := by decide +kernel
theorem dX13_mend_10 : decode cX13_mend 10 = .ok (.invokevirtual 503, 3) := by decide +kernel
theorem dX13_mend_13 : decode cX13_mend 13 = .ok (.ifCond .ne 13, 3) := by decide +kernel
theorem dX13_mend_16 : decode cX13_mend 16 = .ok (.aload_n 0, 1) := by decide +kernel
theorem dX13_mend_17 : decode cX13_mend 17 = .ok (.getfield 141, 3) := by decide +kernel
theorem dX13_mend_20 : decode cX13_mend 20 = .ok (.iload_n 1, 1) := by decide +kernel
theorem dX13_mend_21 : decode cX13_mend 21 = .ok (.iaload, 1) := by decide +kernel
theorem dX13_mend_22 : decode cX13_mend 22 = .ok (.iconst (-1), 1) := by decide +kernel
theorem dX13_mend_23 : decode cX13_mend 23 = .ok (.if_icmp .ne 5, 3) := by decide +kernel
theorem dX13_mend_26 : decode cX13_mend 26 = .ok (.iconst (-1), 1) := by decide +kernel
theorem dX13_mend_27 : decode cX13_mend 27 = .ok (.ireturn, 1) := by decide +kernel
theorem dX13_mend_28 : decode cX13_mend 28 = .ok (.aload_n 0, 1) := by decide +kernel
theorem dX13_mend_29 : decode cX13_mend 29 = .ok (.getfield 147, 3) := by decide +kernel
theorem dX13_mend_32 : decode cX13_mend 32 = .ok (.iload_n 1, 1) := by decide +kernel
theorem dX13_mend_33 : decode cX13_mend 33 = .ok (.aload_n 0, 1) := by decide +kernel
theorem dX13_mend_34 : decode cX13_mend 34 = .ok (.aload_n 0, 1) := by decide +kernel
theorem dX13_mend_35 : decode cX13_mend 35 = .ok (.getfield 141, 3) := by decide +kernel
theorem dX13_mend_38 : decode cX13_mend 38 = .ok (.iload_n 1, 1) := by decide +kernel
theorem dX13_mend_39 : decode cX13_mend 39 = .ok (.iaload, 1) := by decide +kernel
theorem dX13_mend_40 : decode cX13_mend 40 = .ok (.aload_n 0, 1) := by decide +kernel
theorem dX13_mend_41 : decode cX13_mend 41 = .ok (.getfield 383, 3) := by decide +kernel
theorem dX13_mend_44 : decode cX13_mend 44 = .ok (.invokevirtual 482, 3) := by decide +kernel
theorem dX13_mend_47 : decode cX13_mend 47 = .ok (.iastore, 1) := by decide +kernel
theorem dX13_mend_48 : decode cX13_mend 48 = .ok (.aload_n 0, 1) := by decide +kernel
theorem dX13_mend_49 : decode cX13_mend 49 = .ok (.getfield 147, 3) := by decide +kernel
theorem dX13_mend_52 : decode cX13_mend 52 = .ok (.iload_n 1, 1) := by decide +kernel
theorem dX13_mend_53 : decode cX13_mend 53 = .ok (.iaload, 1) := by decide +kernel
theorem dX13_mend_54 : decode cX13_mend 54 = .ok (.ireturn, 1) := by decide +kernel
theorem dX13_erratum_0 : decode cX13_erratum 0 = .ok (.aload_n 0, 1) := by decide +kernel
theorem dX13_erratum_1 : decode cX13_erratum 1 = .ok (.iload_n 1, 1) := by decide +kernel
theorem dX13_erratum_2 : decode cX13_erratum 2 = .ok (.invokevirtual 497, 3) := by decide +kernel
theorem dX13_erratum_5 : decode cX13_erratum 5 = .ok (.ifCond .eq 52, 3) := by decide +kernel
theorem dX13_erratum_8 : decode cX13_erratum 8 = .ok (.aload_n 0, 1) := by decide +kernel
theorem dX13_erratum_9 : decode cX13_erratum 9 = .ok (.iload_n 1, 1) := by decide +kernel
theorem dX13_erratum_10 : decode cX13_erratum 10 = .ok (.invokevirtual 503, 3) := by decide +kernel
theorem dX13_erratum_13 : decode cX13_erratum 13 = .ok (.ifCond .eq 44, 3) := by decide +kernel
theorem dX13_erratum_16 : decode cX13_erratum 16 = .ok (.aload_n 0, 1) := by decide +kernel
theorem dX13_erratum_17 : decode cX13_erratum 17 = .ok (.getfield 141, 3) := by decide +kernel
theorem dX13_erratum_20 : decode cX13_erratum 20 = .ok (.iload_n 1, 1) := by decide +kernel
theorem dX13_erratum_21 : decode cX13_erratum 21 = .ok (.iaload, 1) := by decide +kernel
theorem dX13_erratum_22 : decode cX13_erratum 22 = .ok (.iconst (-1), 1) := by decide +kernel
theorem dX13_erratum_23 : decode cX13_erratum 23 = .ok (.if_icmp .eq 34, 3) := by decide +kernel
theorem dX13_erratum_26 : decode cX13_erratum 26 = .ok (.iload_n 2, 1) := by decide +kernel
theorem dX13_erratum_27 : decode cX13_erratum 27 = .ok (.iconst 0, 1) := by decide +kernel
theorem dX13_erratum_28 : decode cX13_erratum 28 = .ok (.sipush 999, 3) := by decide +kernel
theorem dX13_erratum_31 : decode cX13_erratum 31 = .ok (.invokestatic 256, 3) := by decide +kernel
theorem dX13_erratum_34 : decode cX13_erratum 34 = .ok (.ifCond .eq 23, 3) := by decide +kernel
theorem dX13_erratum_37 : decode cX13_erratum 37 = .ok (.iload_n 3, 1) := by decide +kernel
theorem dX13_erratum_38 : decode cX13_erratum 38 = .ok (.iconst 0, 1) := by decide +kernel
theorem dX13_erratum_39 : decode cX13_erratum 39 = .ok (.sipush 999, 3) := by decide +kernel
theorem dX13_erratum_42 : decode cX13_erratum 42 = .ok (.invokestatic 256, 3) := by decide +kernel
theorem dX13_erratum_45 : decode cX13_erratum 45 = .ok (.ifCond .eq 12, 3) := by decide +kernel
theorem dX13_erratum_48 : decode cX13_erratum 48 = .ok (.aload_n 0, 1) := by decide +kernel
theorem dX13_erratum_49 : decode cX13_erratum 49 = .ok (.getfield 488, 3) := by decide +kernel
theorem dX13_erratum_52 : decode cX13_erratum 52 = .ok (.bipush 60, 2) := by decide +kernel
theorem dX13_erratum_54 : decode cX13_erratum 54 = .ok (.if_icmp .ne 5, 3) := by decide +kernel
theorem dX13_erratum_57 : decode cX13_erratum 57 = .ok (.iconst (-1), 1) := by decide +kernel
theorem dX13_erratum_58 : decode cX13_erratum 58 = .ok (.ireturn, 1) := by decide +kernel
theorem dX13_erratum_59 : decode cX13_erratum 59 = .ok (.aload_n 0, 1) := by decide +kernel
theorem dX13_erratum_60 : decode cX13_erratum 60 = .ok (.getfield 174, 3) := by decide +kernel
theorem dX13_erratum_63 : decode cX13_erratum 63 = .ok (.aload_n 0, 1) := by decide +kernel
theorem dX13_erratum_64 : decode cX13_erratum 64 = .ok (.getfield 488, 3) := by decide +kernel
theorem dX13_erratum_67 : decode cX13_erratum 67 = .ok (.iload_n 1, 1) := by decide +kernel
theorem dX13_erratum_68 : decode cX13_erratum 68 = .ok (.iastore, 1) := by decide +kernel
theorem dX13_erratum_69 : decode cX13_erratum 69 = .ok (.aload_n 0, 1) := by decide +kernel
theorem dX13_erratum_70 : decode cX13_erratum 70 = .ok (.getfield 177, 3) := by decide +kernel
theorem dX13_erratum_73 : decode cX13_erratum 73 = .ok (.aload_n 0, 1) := by decide +kernel
theorem dX13_erratum_74 : decode cX13_erratum 74 = .ok (.getfield 488, 3) := by decide +kernel
theorem dX13_erratum_77 : decode cX13_erratum 77 = .ok (.iload_n 2, 1) := by decide +kernel
theorem dX13_erratum_78 : decode cX13_erratum 78 = .ok (.iastore, 1) := by decide +kernel
theorem dX13_erratum_79 : decode cX13_erratum 79 = .ok (.aload_n 0, 1) := by decide +kernel
theorem dX13_erratum_80 : decode cX13_erratum 80 = .ok (.getfield 180, 3) := by decide +kernel
theorem dX13_erratum_83 : decode cX13_erratum 83 = .ok (.aload_n 0, 1) := by decide +kernel
theorem dX13_erratum_84 : decode cX13_erratum 84 = .ok (.getfield 488, 3) := by decide +kernel
theorem dX13_erratum_87 : decode cX13_erratum 87 = .ok (.iload_n 3, 1) := by decide +kernel
theorem dX13_erratum_88 : decode cX13_erratum 88 = .ok (.iastore, 1) := by decide +kernel
theorem dX13_erratum_89 : decode cX13_erratum 89 = .ok (.aload_n 0, 1) := by decide +kernel
theorem dX13_erratum_90 : decode cX13_erratum 90 = .ok (.getfield 183, 3) := by decide +kernel
theorem dX13_erratum_93 : decode cX13_erratum 93 = .ok (.aload_n 0, 1) := by decide +kernel
theorem dX13_erratum_94 : decode cX13_erratum 94 = .ok (.getfield 488, 3) := by decide +kernel
theorem dX13_erratum_97 : decode cX13_erratum 97 = .ok (.aload_n 0, 1) := by decide +kernel
theorem dX13_erratum_98 : decode cX13_erratum 98 = .ok (.getfield 383, 3) := by decide +kernel
theorem dX13_erratum_101 : decode cX13_erratum 101 = .ok (.iastore, 1) := by decide +kernel
theorem dX13_erratum_102 : decode cX13_erratum 102 = .ok (.aload_n 0, 1) := by decide +kernel
theorem dX13_erratum_103 : decode cX13_erratum 103 = .ok (.dup, 1) := by decide +kernel
theorem dX13_erratum_104 : decode cX13_erratum 104 = .ok (.getfield 488, 3) := by decide +kernel
theorem dX13_erratum_107 : decode cX13_erratum 107 = .ok (.iconst 1, 1) := by decide +kernel
theorem dX13_erratum_108 : decode cX13_erratum 108 = .ok (.iadd, 1) := by decide +kernel
theorem dX13_erratum_109 : decode cX13_erratum 109 = .ok (.putfield 488, 3) := by decide +kernel
theorem dX13_erratum_112 : decode cX13_erratum 112 = .ok (.aload_n 0, 1) := by decide +kernel
theorem dX13_erratum_113 : decode cX13_erratum 113 = .ok (.getfield 488, 3) := by decide +kernel
theorem dX13_erratum_116 : decode cX13_erratum 116 = .ok (.iconst 1, 1) := by decide +kernel
theorem dX13_erratum_117 : decode cX13_erratum 117 = .ok (.isub, 1) := by decide +kernel
theorem dX13_erratum_118 : decode cX13_erratum 118 = .ok (.ireturn, 1) := by decide +kernel
theorem dX13_misses_0 : decode cX13_misses 0 = .ok (.iload_n 1, 1) := by decide +kernel
theorem dX13_misses_1 : decode cX13_misses 1 = .ok (.iconst 0, 1) := by decide +kernel
theorem dX13_misses_2 : decode cX13_misses 2 = .ok (.aload_n 0, 1) := by decide +kernel
theorem dX13_misses_3 : decode cX13_misses 3 = .ok (.getfield 488, 3) := by decide +kernel
theorem dX13_misses_6 : decode cX13_misses 6 = .ok (.iconst 1, 1) := by decide +kernel
theorem dX13_misses_7 : decode cX13_misses 7 = .ok (.isub, 1) := by decide +kernel
theorem dX13_misses_8 : decode cX13_misses 8 = .ok (.invokestatic 256, 3) := by decide +kernel
theorem dX13_misses_11 : decode cX13_misses 11 = .ok (.ifCond .ne 5, 3) := by decide +kernel
theorem dX13_misses_14 : decode cX13_misses 14 = .ok (.iconst (-1), 1) := by decide +kernel
theorem dX13_misses_15 : decode cX13_misses 15 = .ok (.ireturn, 1) := by decide +kernel
theorem dX13_misses_16 : decode cX13_misses 16 = .ok (.aload_n 0, 1) := by decide +kernel
theorem dX13_misses_17 : decode cX13_misses 17 = .ok (.aload_n 0, 1) := by decide +kernel
theorem dX13_misses_18 : decode cX13_misses 18 = .ok (.getfield 174, 3) := by decide +kernel
theorem dX13_misses_21 : decode cX13_misses 21 = .ok (.iload_n 1, 1) := by decide +kernel
theorem dX13_misses_22 : decode cX13_misses 22 = .ok (.iaload, 1) := by decide +kernel
theorem dX13_misses_23 : decode cX13_misses 23 = .ok (.sipush 2000, 3) := by decide +kernel
theorem dX13_misses_26 : decode cX13_misses 26 = .ok (.iload_n 1, 1) := by decide +kernel
theorem dX13_misses_27 : decode cX13_misses 27 = .ok (.invokevirtual 494, 3) := by decide +kernel
theorem dX13_misses_30 : decode cX13_misses 30 = .ok (.pop, 1) := by decide +kernel
theorem dX13_misses_31 : decode cX13_misses 31 = .ok (.aload_n 0, 1) := by decide +kernel
theorem dX13_misses_32 : decode cX13_misses 32 = .ok (.getfield 491, 3) := by decide +kernel
theorem dX13_misses_35 : decode cX13_misses 35 = .ok (.ireturn, 1) := by decide +kernel
theorem dX13_told_0 : decode cX13_told 0 = .ok (.aload_n 0, 1) := by decide +kernel
theorem dX13_told_1 : decode cX13_told 1 = .ok (.iload_n 1, 1) := by decide +kernel
theorem dX13_told_2 : decode cX13_told 2 = .ok (.invokevirtual 497, 3) := by decide +kernel
theorem dX13_told_5 : decode cX13_told 5 = .ok (.ifCond .ne 5, 3) := by decide +kernel
theorem dX13_told_8 : decode cX13_told 8 = .ok (.iconst (-1), 1) := by decide +kernel
theorem dX13_told_9 : decode cX13_told 9 = .ok (.ireturn, 1) := by decide +kernel
theorem dX13_told_10 : decode cX13_told 10 = .ok (.iload_n 2, 1) := by decide +kernel
theorem dX13_told_11 : decode cX13_told 11 = .ok (.tableswitch 104 0 7 #[45, 52, 62, 69, 76, 83, 90, 97], 45) := by decide +kernel
theorem dX13_told_56 : decode cX13_told 56 = .ok (.aload_n 0, 1) := by decide +kernel
theorem dX13_told_57 : decode cX13_told 57 = .ok (.getfield 147, 3) := by decide +kernel
theorem dX13_told_60 : decode cX13_told 60 = .ok (.iload_n 1, 1) := by decide +kernel
theorem dX13_told_61 : decode cX13_told 61 = .ok (.iaload, 1) := by decide +kernel
theorem dX13_told_62 : decode cX13_told 62 = .ok (.ireturn, 1) := by decide +kernel
theorem dX13_told_63 : decode cX13_told 63 = .ok (.aload_n 0, 1) := by decide +kernel
theorem dX13_told_64 : decode cX13_told 64 = .ok (.iload_n 1, 1) := by decide +kernel
theorem dX13_told_65 : decode cX13_told 65 = .ok (.sipush 2000, 3) := by decide +kernel
theorem dX13_told_68 : decode cX13_told 68 = .ok (.iconst (-1), 1) := by decide +kernel
theorem dX13_told_69 : decode cX13_told 69 = .ok (.invokevirtual 494, 3) := by decide +kernel
theorem dX13_told_72 : decode cX13_told 72 = .ok (.ireturn, 1) := by decide +kernel
theorem dX13_told_73 : decode cX13_told 73 = .ok (.aload_n 0, 1) := by decide +kernel
theorem dX13_told_74 : decode cX13_told 74 = .ok (.getfield 141, 3) := by decide +kernel
theorem dX13_told_77 : decode cX13_told 77 = .ok (.iload_n 1, 1) := by decide +kernel
theorem dX13_told_78 : decode cX13_told 78 = .ok (.iaload, 1) := by decide +kernel
theorem dX13_told_79 : decode cX13_told 79 = .ok (.ireturn, 1) := by decide +kernel
theorem dX13_told_80 : decode cX13_told 80 = .ok (.aload_n 0, 1) := by decide +kernel
theorem dX13_told_81 : decode cX13_told 81 = .ok (.getfield 144, 3) := by decide +kernel
theorem dX13_told_84 : decode cX13_told 84 = .ok (.iload_n 1, 1) := by decide +kernel
theorem dX13_told_85 : decode cX13_told 85 = .ok (.iaload, 1) := by decide +kernel
theorem dX13_told_86 : decode cX13_told 86 = .ok (.ireturn, 1) := by decide +kernel
theorem dX13_told_87 : decode cX13_told 87 = .ok (.aload_n 0, 1) := by decide +kernel
theorem dX13_told_88 : decode cX13_told 88 = .ok (.getfield 135, 3) := by decide +kernel
theorem dX13_told_91 : decode cX13_told 91 = .ok (.iload_n 1, 1) := by decide +kernel
theorem dX13_told_92 : decode cX13_told 92 = .ok (.iaload, 1) := by decide +kernel
theorem dX13_told_93 : decode cX13_told 93 = .ok (.ireturn, 1) := by decide +kernel
theorem dX13_told_94 : decode cX13_told 94 = .ok (.aload_n 0, 1) := by decide +kernel
theorem dX13_told_95 : decode cX13_told 95 = .ok (.getfield 156, 3) := by decide +kernel
theorem dX13_told_98 : decode cX13_told 98 = .ok (.iload_n 1, 1) := by decide +kernel
theorem dX13_told_99 : decode cX13_told 99 = .ok (.iaload, 1) := by decide +kernel
theorem dX13_told_100 : decode cX13_told 100 = .ok (.ireturn, 1) := by decide +kernel
theorem dX13_told_101 : decode cX13_told 101 = .ok (.aload_n 0, 1) := by decide +kernel
theorem dX13_told_102 : decode cX13_told 102 = .ok (.getfield 153, 3) := by decide +kernel
theorem dX13_told_105 : decode cX13_told 105 = .ok (.iload_n 1, 1) := by decide +kernel
theorem dX13_told_106 : decode cX13_told 106 = .ok (.iaload, 1) := by decide +kernel
theorem dX13_told_107 : decode cX13_told 107 = .ok (.ireturn, 1) := by decide +kernel
theorem dX13_told_108 : decode cX13_told 108 = .ok (.aload_n 0, 1) := by decide +kernel
theorem dX13_told_109 : decode cX13_told 109 = .ok (.getfield 138, 3) := by decide +kernel
theorem dX13_told_112 : decode cX13_told 112 = .ok (.iload_n 1, 1) := by decide +kernel
theorem dX13_told_113 : decode cX13_told 113 = .ok (.iaload, 1) := by decide +kernel
theorem dX13_told_114 : decode cX13_told 114 = .ok (.ireturn, 1) := by decide +kernel
theorem dX13_told_115 : decode cX13_told 115 = .ok (.iconst (-1), 1) := by decide +kernel
theorem dX13_told_116 : decode cX13_told 116 = .ok (.ireturn, 1) := by decide +kernel
theorem dX13_page_0 : decode cX13_page 0 = .ok (.aload_n 0, 1) := by decide +kernel
theorem dX13_page_1 : decode cX13_page 1 = .ok (.iload_n 1, 1) := by decide +kernel
theorem dX13_page_2 : decode cX13_page 2 = .ok (.invokevirtual 421, 3) := by decide +kernel
theorem dX13_page_5 : decode cX13_page 5 = .ok (.ifCond .eq 12, 3) := by decide +kernel
theorem dX13_page_8 : decode cX13_page 8 = .ok (.aload_n 0, 1) := by decide +kernel
theorem dX13_page_9 : decode cX13_page 9 = .ok (.getfield 117, 3) := by decide +kernel
theorem dX13_page_12 : decode cX13_page 12 = .ok (.iload_n 1, 1) := by decide +kernel
theorem dX13_page_13 : decode cX13_page 13 = .ok (.iaload, 1) := by decide +kernel
theorem dX13_page_14 : decode cX13_page 14 = .ok (.goto 4, 3) := by decide +kernel
theorem dX13_page_17 : decode cX13_page 17 = .ok (.iconst (-1), 1) := by decide +kernel
theorem dX13_page_18 : decode cX13_page 18 = .ok (.ireturn, 1) := by decide +kernel
theorem dX13_subscribe_0 : decode cX13_subscribe 0 = .ok (.iload_n 1, 1) := by decide +kernel
theorem dX13_subscribe_1 : decode cX13_subscribe 1 = .ok (.iconst 0, 1) := by decide +kernel
theorem dX13_subscribe_2 : decode cX13_subscribe 2 = .ok (.bipush 9, 2) := by decide +kernel
theorem dX13_subscribe_4 : decode cX13_subscribe 4 = .ok (.invokestatic 256, 3) := by decide +kernel
theorem dX13_subscribe_7 : decode cX13_subscribe 7 = .ok (.ifCond .eq 30, 3) := by decide +kernel
theorem dX13_subscribe_10 : decode cX13_subscribe 10 = .ok (.iload_n 2, 1) := by decide +kernel
theorem dX13_subscribe_11 : decode cX13_subscribe 11 = .ok (.invokestatic 377, 3) := by decide +kernel
theorem dX13_subscribe_14 : decode cX13_subscribe 14 = .ok (.ifCond .eq 23, 3) := by decide +kernel
theorem dX13_subscribe_17 : decode cX13_subscribe 17 = .ok (.iload_n 3, 1) := by decide +kernel
theorem dX13_subscribe_18 : decode cX13_subscribe 18 = .ok (.iconst 1, 1) := by decide +kernel
theorem dX13_subscribe_19 : decode cX13_subscribe 19 = .ok (.sipush 999, 3) := by decide +kernel
theorem dX13_subscribe_22 : decode cX13_subscribe 22 = .ok (.invokestatic 256, 3) := by decide +kernel
theorem dX13_subscribe_25 : decode cX13_subscribe 25 = .ok (.ifCond .eq 12, 3) := by decide +kernel
theorem dX13_subscribe_28 : decode cX13_subscribe 28 = .ok (.aload_n 0, 1) := by decide +kernel
theorem dX13_subscribe_29 : decode cX13_subscribe 29 = .ok (.getfield 189, 3) := by decide +kernel
theorem dX13_subscribe_32 : decode cX13_subscribe 32 = .ok (.iload_n 1, 1) := by decide +kernel
theorem dX13_subscribe_33 : decode cX13_subscribe 33 = .ok (.iaload, 1) := by decide +kernel
theorem dX13_subscribe_34 : decode cX13_subscribe 34 = .ok (.ifCond .le 5, 3) := by decide +kernel
theorem dX13_subscribe_37 : decode cX13_subscribe 37 = .ok (.iconst 0, 1) := by decide +kernel
theorem dX13_subscribe_38 : decode cX13_subscribe 38 = .ok (.ireturn, 1) := by decide +kernel
theorem dX13_subscribe_39 : decode cX13_subscribe 39 = .ok (.aload_n 0, 1) := by decide +kernel
theorem dX13_subscribe_40 : decode cX13_subscribe 40 = .ok (.getfield 186, 3) := by decide +kernel
theorem dX13_subscribe_43 : decode cX13_subscribe 43 = .ok (.iload_n 1, 1) := by decide +kernel
theorem dX13_subscribe_44 : decode cX13_subscribe 44 = .ok (.iload_n 2, 1) := by decide +kernel
theorem dX13_subscribe_45 : decode cX13_subscribe 45 = .ok (.iastore, 1) := by decide +kernel
theorem dX13_subscribe_46 : decode cX13_subscribe 46 = .ok (.aload_n 0, 1) := by decide +kernel
theorem dX13_subscribe_47 : decode cX13_subscribe 47 = .ok (.getfield 189, 3) := by decide +kernel
theorem dX13_subscribe_50 : decode cX13_subscribe 50 = .ok (.iload_n 1, 1) := by decide +kernel
theorem dX13_subscribe_51 : decode cX13_subscribe 51 = .ok (.iload_n 3, 1) := by decide +kernel
theorem dX13_subscribe_52 : decode cX13_subscribe 52 = .ok (.iastore, 1) := by decide +kernel
theorem dX13_subscribe_53 : decode cX13_subscribe 53 = .ok (.iconst 1, 1) := by decide +kernel
theorem dX13_subscribe_54 : decode cX13_subscribe 54 = .ok (.ireturn, 1) := by decide +kernel
theorem dX13_bounded_0 : decode cX13_bounded 0 = .ok (.iload_n 0, 1) := by decide +kernel
theorem dX13_bounded_1 : decode cX13_bounded 1 = .ok (.iconst 1, 1) := by decide +kernel
theorem dX13_bounded_2 : decode cX13_bounded 2 = .ok (.if_icmp .ge 7, 3) := by decide +kernel
theorem dX13_bounded_5 : decode cX13_bounded 5 = .ok (.iconst 1, 1) := by decide +kernel
theorem dX13_bounded_6 : decode cX13_bounded 6 = .ok (.goto 17, 3) := by decide +kernel
theorem dX13_bounded_9 : decode cX13_bounded 9 = .ok (.iload_n 0, 1) := by decide +kernel
theorem dX13_bounded_10 : decode cX13_bounded 10 = .ok (.sipush 400, 3) := by decide +kernel
theorem dX13_bounded_13 : decode cX13_bounded 13 = .ok (.if_icmp .le 9, 3) := by decide +kernel
theorem dX13_bounded_16 : decode cX13_bounded 16 = .ok (.sipush 400, 3) := by decide +kernel
theorem dX13_bounded_19 : decode cX13_bounded 19 = .ok (.goto 4, 3) := by decide +kernel
theorem dX13_bounded_22 : decode cX13_bounded 22 = .ok (.iload_n 0, 1) := by decide +kernel
theorem dX13_bounded_23 : decode cX13_bounded 23 = .ok (.ireturn, 1) := by decide +kernel
theorem dX13_index_0 : decode cX13_index 0 = .ok (.iload_n 2, 1) := by decide +kernel
theorem dX13_index_1 : decode cX13_index 1 = .ok (.invokestatic 377, 3) := by decide +kernel
theorem dX13_index_4 : decode cX13_index 4 = .ok (.ifCond .eq 16, 3) := by decide +kernel
theorem dX13_index_7 : decode cX13_index 7 = .ok (.aload_n 0, 1) := by decide +kernel
theorem dX13_index_8 : decode cX13_index 8 = .ok (.getfield 68, 3) := by decide +kernel
theorem dX13_index_11 : decode cX13_index 11 = .ok (.iload_n 2, 1) := by decide +kernel
theorem dX13_index_12 : decode cX13_index 12 = .ok (.baload, 1) := by decide +kernel
theorem dX13_index_13 : decode cX13_index 13 = .ok (.ifCond .eq 7, 3) := by decide +kernel
theorem dX13_index_16 : decode cX13_index 16 = .ok (.iload_n 3, 1) := by decide +kernel
theorem dX13_index_17 : decode cX13_index 17 = .ok (.ifCond .ge 5, 3) := by decide +kernel
theorem dX13_index_20 : decode cX13_index 20 = .ok (.iconst (-1), 1) := by decide +kernel
theorem dX13_index_21 : decode cX13_index 21 = .ok (.ireturn, 1) := by decide +kernel
theorem dX13_index_22 : decode cX13_index 22 = .ok (.iload_n 3, 1) := by decide +kernel
theorem dX13_index_23 : decode cX13_index 23 = .ok (.istore 4, 2) := by decide +kernel
theorem dX13_index_25 : decode cX13_index 25 = .ok (.aload_n 0, 1) := by decide +kernel
theorem dX13_index_26 : decode cX13_index 26 = .ok (.getfield 81, 3) := by decide +kernel
theorem dX13_index_29 : decode cX13_index 29 = .ok (.iload_n 2, 1) := by decide +kernel
theorem dX13_index_30 : decode cX13_index 30 = .ok (.iaload, 1) := by decide +kernel
theorem dX13_index_31 : decode cX13_index 31 = .ok (.bipush 40, 2) := by decide +kernel
theorem dX13_index_33 : decode cX13_index 33 = .ok (.iadd, 1) := by decide +kernel
theorem dX13_index_34 : decode cX13_index 34 = .ok (.iconst 1, 1) := by decide +kernel
theorem dX13_index_35 : decode cX13_index 35 = .ok (.isub, 1) := by decide +kernel
theorem dX13_index_36 : decode cX13_index 36 = .ok (.bipush 40, 2) := by decide +kernel
theorem dX13_index_38 : decode cX13_index 38 = .ok (.idiv, 1) := by decide +kernel
theorem dX13_index_39 : decode cX13_index 39 = .ok (.istore 5, 2) := by decide +kernel
theorem dX13_index_41 : decode cX13_index 41 = .ok (.iconst 1, 1) := by decide +kernel
theorem dX13_index_42 : decode cX13_index 42 = .ok (.istore 6, 2) := by decide +kernel
theorem dX13_index_44 : decode cX13_index 44 = .ok (.iload 6, 2) := by decide +kernel
theorem dX13_index_46 : decode cX13_index 46 = .ok (.iload 5, 2) := by decide +kernel
theorem dX13_index_48 : decode cX13_index 48 = .ok (.if_icmp .gt 100, 3) := by decide +kernel
theorem dX13_index_51 : decode cX13_index 51 = .ok (.iconst 0, 1) := by decide +kernel
theorem dX13_index_52 : decode cX13_index 52 = .ok (.istore 7, 2) := by decide +kernel
theorem dX13_index_54 : decode cX13_index 54 = .ok (.iconst 0, 1) := by decide +kernel
theorem dX13_index_55 : decode cX13_index 55 = .ok (.istore 8, 2) := by decide +kernel
theorem dX13_index_57 : decode cX13_index 57 = .ok (.iload 8, 2) := by decide +kernel
theorem dX13_index_59 : decode cX13_index 59 = .ok (.aload_n 0, 1) := by decide +kernel
theorem dX13_index_60 : decode cX13_index 60 = .ok (.getfield 452, 3) := by decide +kernel
theorem dX13_index_63 : decode cX13_index 63 = .ok (.if_icmp .ge 60, 3) := by decide +kernel
theorem dX13_index_66 : decode cX13_index 66 = .ok (.iload 7, 2) := by decide +kernel
theorem dX13_index_68 : decode cX13_index 68 = .ok (.ifCond .ne 55, 3) := by decide +kernel
theorem dX13_index_71 : decode cX13_index 71 = .ok (.aload_n 0, 1) := by decide +kernel
theorem dX13_index_72 : decode cX13_index 72 = .ok (.getfield 114, 3) := by decide +kernel
theorem dX13_index_75 : decode cX13_index 75 = .ok (.aload_n 0, 1) := by decide +kernel
theorem dX13_index_76 : decode cX13_index 76 = .ok (.getfield 135, 3) := by decide +kernel
theorem dX13_index_79 : decode cX13_index 79 = .ok (.iload 8, 2) := by decide +kernel
theorem dX13_index_81 : decode cX13_index 81 = .ok (.iaload, 1) := by decide +kernel
theorem dX13_index_82 : decode cX13_index 82 = .ok (.iaload, 1) := by decide +kernel
theorem dX13_index_83 : decode cX13_index 83 = .ok (.iload_n 2, 1) := by decide +kernel
theorem dX13_index_84 : decode cX13_index 84 = .ok (.if_icmp .ne 30, 3) := by decide +kernel
theorem dX13_index_87 : decode cX13_index 87 = .ok (.aload_n 0, 1) := by decide +kernel
theorem dX13_index_88 : decode cX13_index 88 = .ok (.getfield 156, 3) := by decide +kernel
theorem dX13_index_91 : decode cX13_index 91 = .ok (.iload 8, 2) := by decide +kernel
theorem dX13_index_93 : decode cX13_index 93 = .ok (.iaload, 1) := by decide +kernel
theorem dX13_index_94 : decode cX13_index 94 = .ok (.iload 6, 2) := by decide +kernel
theorem dX13_index_96 : decode cX13_index 96 = .ok (.if_icmp .ne 18, 3) := by decide +kernel
theorem dX13_index_99 : decode cX13_index 99 = .ok (.aload_n 0, 1) := by decide +kernel
theorem dX13_index_100 : decode cX13_index 100 = .ok (.getfield 150, 3) := by decide +kernel
theorem dX13_index_103 : decode cX13_index 103 = .ok (.iload 8, 2) := by decide +kernel
theorem dX13_index_105 : decode cX13_index 105 = .ok (.iaload, 1) := by decide +kernel
theorem dX13_index_106 : decode cX13_index 106 = .ok (.iload_n 1, 1) := by decide +kernel
theorem dX13_index_107 : decode cX13_index 107 = .ok (.if_icmp .ne 7, 3) := by decide +kernel
theorem dX13_index_110 : decode cX13_index 110 = .ok (.iconst 1, 1) := by decide +kernel
theorem dX13_index_111 : decode cX13_index 111 = .ok (.goto 4, 3) := by decide +kernel
theorem dX13_index_114 : decode cX13_index 114 = .ok (.iconst 0, 1) := by decide +kernel
theorem dX13_index_115 : decode cX13_index 115 = .ok (.istore 7, 2) := by decide +kernel
theorem dX13_index_117 : decode cX13_index 117 = .ok (.iinc 8 1, 3) := by decide +kernel
theorem dX13_index_120 : decode cX13_index 120 = .ok (.goto (-63), 3) := by decide +kernel
theorem dX13_index_123 : decode cX13_index 123 = .ok (.iload 7, 2) := by decide +kernel
theorem dX13_index_125 : decode cX13_index 125 = .ok (.ifCond .ne 6, 3) := by decide +kernel
theorem dX13_index_128 : decode cX13_index 128 = .ok (.goto 14, 3) := by decide +kernel
theorem dX13_index_131 : decode cX13_index 131 = .ok (.iload 4, 2) := by decide +kernel
theorem dX13_index_133 : decode cX13_index 133 = .ok (.ifCond .ne 6, 3) := by decide +kernel
theorem dX13_index_136 : decode cX13_index 136 = .ok (.iload 6, 2) := by decide +kernel
theorem dX13_index_138 : decode cX13_index 138 = .ok (.ireturn, 1) := by decide +kernel
theorem dX13_index_139 : decode cX13_index 139 = .ok (.iinc 4 (-1), 3) := by decide +kernel
theorem dX13_index_142 : decode cX13_index 142 = .ok (.iinc 6 1, 3) := by decide +kernel
theorem dX13_index_145 : decode cX13_index 145 = .ok (.goto (-101), 3) := by decide +kernel
theorem dX13_index_148 : decode cX13_index 148 = .ok (.iconst (-1), 1) := by decide +kernel
theorem dX13_index_149 : decode cX13_index 149 = .ok (.ireturn, 1) := by decide +kernel
theorem dX13_steal_0 : decode cX13_steal 0 = .ok (.iload_n 1, 1) := by decide +kernel
theorem dX13_steal_1 : decode cX13_steal 1 = .ok (.iconst 0, 1) := by decide +kernel
theorem dX13_steal_2 : decode cX13_steal 2 = .ok (.sipush 999, 3) := by decide +kernel
theorem dX13_steal_5 : decode cX13_steal 5 = .ok (.invokestatic 256, 3) := by decide +kernel
theorem dX13_steal_8 : decode cX13_steal 8 = .ok (.ifCond .eq 12, 3) := by decide +kernel
theorem dX13_steal_11 : decode cX13_steal 11 = .ok (.aload_n 0, 1) := by decide +kernel
theorem dX13_steal_12 : decode cX13_steal 12 = .ok (.getfield 546, 3) := by decide +kernel
theorem dX13_steal_15 : decode cX13_steal 15 = .ok (.bipush 30, 2) := by decide +kernel
theorem dX13_steal_17 : decode cX13_steal 17 = .ok (.if_icmp .ne 5, 3) := by decide +kernel
theorem dX13_steal_20 : decode cX13_steal 20 = .ok (.iconst (-1), 1) := by decide +kernel
theorem dX13_steal_21 : decode cX13_steal 21 = .ok (.ireturn, 1) := by decide +kernel
theorem dX13_steal_22 : decode cX13_steal 22 = .ok (.aload_n 0, 1) := by decide +kernel
theorem dX13_steal_23 : decode cX13_steal 23 = .ok (.getfield 192, 3) := by decide +kernel
theorem dX13_steal_26 : decode cX13_steal 26 = .ok (.aload_n 0, 1) := by decide +kernel
theorem dX13_steal_27 : decode cX13_steal 27 = .ok (.getfield 546, 3) := by decide +kernel
theorem dX13_steal_30 : decode cX13_steal 30 = .ok (.iload_n 1, 1) := by decide +kernel
theorem dX13_steal_31 : decode cX13_steal 31 = .ok (.iastore, 1) := by decide +kernel
theorem dX13_steal_32 : decode cX13_steal 32 = .ok (.aload_n 0, 1) := by decide +kernel
theorem dX13_steal_33 : decode cX13_steal 33 = .ok (.dup, 1) := by decide +kernel
theorem dX13_steal_34 : decode cX13_steal 34 = .ok (.getfield 546, 3) := by decide +kernel
theorem dX13_steal_37 : decode cX13_steal 37 = .ok (.iconst 1, 1) := by decide +kernel
theorem dX13_steal_38 : decode cX13_steal 38 = .ok (.iadd, 1) := by decide +kernel
theorem dX13_steal_39 : decode cX13_steal 39 = .ok (.putfield 546, 3) := by decide +kernel
theorem dX13_steal_42 : decode cX13_steal 42 = .ok (.aload_n 0, 1) := by decide +kernel
theorem dX13_steal_43 : decode cX13_steal 43 = .ok (.getfield 546, 3) := by decide +kernel
theorem dX13_steal_46 : decode cX13_steal 46 = .ok (.ireturn, 1) := by decide +kernel
theorem dX13_forget_0 : decode cX13_forget 0 = .ok (.aload_n 0, 1) := by decide +kernel
theorem dX13_forget_1 : decode cX13_forget 1 = .ok (.getfield 546, 3) := by decide +kernel
theorem dX13_forget_4 : decode cX13_forget 4 = .ok (.istore_n 1, 1) := by decide +kernel
theorem dX13_forget_5 : decode cX13_forget 5 = .ok (.aload_n 0, 1) := by decide +kernel
theorem dX13_forget_6 : decode cX13_forget 6 = .ok (.iconst 0, 1) := by decide +kernel
theorem dX13_forget_7 : decode cX13_forget 7 = .ok (.putfield 546, 3) := by decide +kernel
theorem dX13_forget_10 : decode cX13_forget 10 = .ok (.iload_n 1, 1) := by decide +kernel
theorem dX13_forget_11 : decode cX13_forget 11 = .ok (.ireturn, 1) := by decide +kernel
theorem dX13_count_0 : decode cX13_count 0 = .ok (.iconst 0, 1) := by decide +kernel
theorem dX13_count_1 : decode cX13_count 1 = .ok (.istore_n 2, 1) := by decide +kernel
theorem dX13_count_2 : decode cX13_count 2 = .ok (.iload_n 1, 1) := by decide +kernel
theorem dX13_count_3 : decode cX13_count 3 = .ok (.bipush 10, 2) := by decide +kernel
theorem dX13_count_5 : decode cX13_count 5 = .ok (.bipush 9, 2) := by decide +kernel
theorem dX13_count_7 : decode cX13_count 7 = .ok (.aload_n 0, 1) := by decide +kernel
theorem dX13_count_8 : decode cX13_count 8 = .ok (.getfield 445, 3) := by decide +kernel
theorem dX13_count_11 : decode cX13_count 11 = .ok (.iadd, 1) := by decide +kernel
theorem dX13_count_12 : decode cX13_count 12 = .ok (.invokestatic 256, 3) := by decide +kernel
theorem dX13_count_15 : decode cX13_count 15 = .ok (.ifCond .eq 47, 3) := by decide +kernel
theorem dX13_count_18 : decode cX13_count 18 = .ok (.iconst 0, 1) := by decide +kernel
theorem dX13_count_19 : decode cX13_count 19 = .ok (.istore_n 3, 1) := by decide +kernel
theorem dX13_count_20 : decode cX13_count 20 = .ok (.iload_n 3, 1) := by decide +kernel
theorem dX13_count_21 : decode cX13_count 21 = .ok (.aload_n 0, 1) := by decide +kernel
theorem dX13_count_22 : decode cX13_count 22 = .ok (.getfield 452, 3) := by decide +kernel
theorem dX13_count_25 : decode cX13_count 25 = .ok (.if_icmp .ge 35, 3) := by decide +kernel
theorem dX13_count_28 : decode cX13_count 28 = .ok (.iload_n 2, 1) := by decide +kernel
theorem dX13_count_29 : decode cX13_count 29 = .ok (.aload_n 0, 1) := by decide +kernel
theorem dX13_count_30 : decode cX13_count 30 = .ok (.getfield 138, 3) := by decide +kernel
theorem dX13_count_33 : decode cX13_count 33 = .ok (.iload_n 3, 1) := by decide +kernel
theorem dX13_count_34 : decode cX13_count 34 = .ok (.iaload, 1) := by decide +kernel
theorem dX13_count_35 : decode cX13_count 35 = .ok (.iload_n 1, 1) := by decide +kernel
theorem dX13_count_36 : decode cX13_count 36 = .ok (.bipush 10, 2) := by decide +kernel
theorem dX13_count_38 : decode cX13_count 38 = .ok (.isub, 1) := by decide +kernel
theorem dX13_count_39 : decode cX13_count 39 = .ok (.if_icmp .ne 12, 3) := by decide +kernel
theorem dX13_count_42 : decode cX13_count 42 = .ok (.aload_n 0, 1) := by decide +kernel
theorem dX13_count_43 : decode cX13_count 43 = .ok (.getfield 153, 3) := by decide +kernel
theorem dX13_count_46 : decode cX13_count 46 = .ok (.iload_n 3, 1) := by decide +kernel
theorem dX13_count_47 : decode cX13_count 47 = .ok (.iaload, 1) := by decide +kernel
theorem dX13_count_48 : decode cX13_count 48 = .ok (.goto 4, 3) := by decide +kernel
theorem dX13_count_51 : decode cX13_count 51 = .ok (.iconst 0, 1) := by decide +kernel
theorem dX13_count_52 : decode cX13_count 52 = .ok (.iadd, 1) := by decide +kernel
theorem dX13_count_53 : decode cX13_count 53 = .ok (.istore_n 2, 1) := by decide +kernel
theorem dX13_count_54 : decode cX13_count 54 = .ok (.iinc 3 1, 3) := by decide +kernel
theorem dX13_count_57 : decode cX13_count 57 = .ok (.goto (-37), 3) := by decide +kernel
theorem dX13_count_60 : decode cX13_count 60 = .ok (.iload_n 2, 1) := by decide +kernel
theorem dX13_count_61 : decode cX13_count 61 = .ok (.ireturn, 1) := by decide +kernel
theorem dX13_count_62 : decode cX13_count 62 = .ok (.iload_n 1, 1) := by decide +kernel
theorem dX13_count_63 : decode cX13_count 63 = .ok (.bipush 30, 2) := by decide +kernel
theorem dX13_count_65 : decode cX13_count 65 = .ok (.bipush 29, 2) := by decide +kernel
theorem dX13_count_67 : decode cX13_count 67 = .ok (.aload_n 0, 1) := by decide +kernel
theorem dX13_count_68 : decode cX13_count 68 = .ok (.getfield 445, 3) := by decide +kernel
theorem dX13_count_71 : decode cX13_count 71 = .ok (.iadd, 1) := by decide +kernel
theorem dX13_count_72 : decode cX13_count 72 = .ok (.invokestatic 256, 3) := by decide +kernel
theorem dX13_count_75 : decode cX13_count 75 = .ok (.ifCond .eq 21, 3) := by decide +kernel
theorem dX13_count_78 : decode cX13_count 78 = .ok (.aload_n 0, 1) := by decide +kernel
theorem dX13_count_79 : decode cX13_count 79 = .ok (.getfield 129, 3) := by decide +kernel
theorem dX13_count_82 : decode cX13_count 82 = .ok (.iload_n 1, 1) := by decide +kernel
theorem dX13_count_83 : decode cX13_count 83 = .ok (.bipush 30, 2) := by decide +kernel
theorem dX13_count_85 : decode cX13_count 85 = .ok (.isub, 1) := by decide +kernel
theorem dX13_count_86 : decode cX13_count 86 = .ok (.baload, 1) := by decide +kernel
theorem dX13_count_87 : decode cX13_count 87 = .ok (.ifCond .eq 7, 3) := by decide +kernel
theorem dX13_count_90 : decode cX13_count 90 = .ok (.iconst 0, 1) := by decide +kernel
theorem dX13_count_91 : decode cX13_count 91 = .ok (.goto 4, 3) := by decide +kernel
theorem dX13_count_94 : decode cX13_count 94 = .ok (.iconst 1, 1) := by decide +kernel
theorem dX13_count_95 : decode cX13_count 95 = .ok (.ireturn, 1) := by decide +kernel
theorem dX13_count_96 : decode cX13_count 96 = .ok (.iload_n 1, 1) := by decide +kernel
theorem dX13_count_97 : decode cX13_count 97 = .ok (.tableswitch 148 0 8 #[51, 56, 61, 66, 71, 76, 81, 116, 121], 51) := by decide +kernel
theorem dX13_count_148 : decode cX13_count 148 = .ok (.aload_n 0, 1) := by decide +kernel
theorem dX13_count_149 : decode cX13_count 149 = .ok (.getfield 383, 3) := by decide +kernel
theorem dX13_count_152 : decode cX13_count 152 = .ok (.ireturn, 1) := by decide +kernel
theorem dX13_count_153 : decode cX13_count 153 = .ok (.aload_n 0, 1) := by decide +kernel
theorem dX13_count_154 : decode cX13_count 154 = .ok (.getfield 418, 3) := by decide +kernel
theorem dX13_count_157 : decode cX13_count 157 = .ok (.ireturn, 1) := by decide +kernel
theorem dX13_count_158 : decode cX13_count 158 = .ok (.aload_n 0, 1) := by decide +kernel
theorem dX13_count_159 : decode cX13_count 159 = .ok (.getfield 445, 3) := by decide +kernel
theorem dX13_count_162 : decode cX13_count 162 = .ok (.ireturn, 1) := by decide +kernel
theorem dX13_count_163 : decode cX13_count 163 = .ok (.aload_n 0, 1) := by decide +kernel
theorem dX13_count_164 : decode cX13_count 164 = .ok (.getfield 452, 3) := by decide +kernel
theorem dX13_count_167 : decode cX13_count 167 = .ok (.ireturn, 1) := by decide +kernel
theorem dX13_count_168 : decode cX13_count 168 = .ok (.aload_n 0, 1) := by decide +kernel
theorem dX13_count_169 : decode cX13_count 169 = .ok (.getfield 374, 3) := by decide +kernel
theorem dX13_count_172 : decode cX13_count 172 = .ok (.ireturn, 1) := by decide +kernel
theorem dX13_count_173 : decode cX13_count 173 = .ok (.aload_n 0, 1) := by decide +kernel
theorem dX13_count_174 : decode cX13_count 174 = .ok (.getfield 488, 3) := by decide +kernel
theorem dX13_count_177 : decode cX13_count 177 = .ok (.ireturn, 1) := by decide +kernel
theorem dX13_count_178 : decode cX13_count 178 = .ok (.iconst 0, 1) := by decide +kernel
theorem dX13_count_179 : decode cX13_count 179 = .ok (.istore_n 3, 1) := by decide +kernel
theorem dX13_count_180 : decode cX13_count 180 = .ok (.iload_n 3, 1) := by decide +kernel
theorem dX13_count_181 : decode cX13_count 181 = .ok (.bipush 6, 2) := by decide +kernel
theorem dX13_count_183 : decode cX13_count 183 = .ok (.if_icmp .ge 28, 3) := by decide +kernel
theorem dX13_count_186 : decode cX13_count 186 = .ok (.iload_n 2, 1) := by decide +kernel
theorem dX13_count_187 : decode cX13_count 187 = .ok (.aload_n 0, 1) := by decide +kernel
theorem dX13_count_188 : decode cX13_count 188 = .ok (.getfield 68, 3) := by decide +kernel
theorem dX13_count_191 : decode cX13_count 191 = .ok (.iload_n 3, 1) := by decide +kernel
theorem dX13_count_192 : decode cX13_count 192 = .ok (.baload, 1) := by decide +kernel
theorem dX13_count_193 : decode cX13_count 193 = .ok (.ifCond .eq 9, 3) := by decide +kernel
theorem dX13_count_196 : decode cX13_count 196 = .ok (.iconst 1, 1) := by decide +kernel
theorem dX13_count_197 : decode cX13_count 197 = .ok (.iload_n 3, 1) := by decide +kernel
theorem dX13_count_198 : decode cX13_count 198 = .ok (.ishl, 1) := by decide +kernel
theorem dX13_count_199 : decode cX13_count 199 = .ok (.goto 4, 3) := by decide +kernel
theorem dX13_count_202 : decode cX13_count 202 = .ok (.iconst 0, 1) := by decide +kernel
theorem dX13_count_203 : decode cX13_count 203 = .ok (.ior, 1) := by decide +kernel
theorem dX13_count_204 : decode cX13_count 204 = .ok (.istore_n 2, 1) := by decide +kernel
theorem dX13_count_205 : decode cX13_count 205 = .ok (.iinc 3 1, 3) := by decide +kernel
theorem dX13_count_208 : decode cX13_count 208 = .ok (.goto (-28), 3) := by decide +kernel
theorem dX13_count_211 : decode cX13_count 211 = .ok (.iload_n 2, 1) := by decide +kernel
theorem dX13_count_212 : decode cX13_count 212 = .ok (.ireturn, 1) := by decide +kernel
theorem dX13_count_213 : decode cX13_count 213 = .ok (.aload_n 0, 1) := by decide +kernel
theorem dX13_count_214 : decode cX13_count 214 = .ok (.getfield 252, 3) := by decide +kernel
theorem dX13_count_217 : decode cX13_count 217 = .ok (.ireturn, 1) := by decide +kernel
theorem dX13_count_218 : decode cX13_count 218 = .ok (.iconst 0, 1) := by decide +kernel
theorem dX13_count_219 : decode cX13_count 219 = .ok (.istore_n 3, 1) := by decide +kernel
theorem dX13_count_220 : decode cX13_count 220 = .ok (.iload_n 3, 1) := by decide +kernel
theorem dX13_count_221 : decode cX13_count 221 = .ok (.aload_n 0, 1) := by decide +kernel
theorem dX13_count_222 : decode cX13_count 222 = .ok (.getfield 452, 3) := by decide +kernel
theorem dX13_count_225 : decode cX13_count 225 = .ok (.if_icmp .ge 18, 3) := by decide +kernel
theorem dX13_count_228 : decode cX13_count 228 = .ok (.iload_n 2, 1) := by decide +kernel
theorem dX13_count_229 : decode cX13_count 229 = .ok (.aload_n 0, 1) := by decide +kernel
theorem dX13_count_230 : decode cX13_count 230 = .ok (.getfield 153, 3) := by decide +kernel
theorem dX13_count_233 : decode cX13_count 233 = .ok (.iload_n 3, 1) := by decide +kernel
theorem dX13_count_234 : decode cX13_count 234 = .ok (.iaload, 1) := by decide +kernel
theorem dX13_count_235 : decode cX13_count 235 = .ok (.iadd, 1) := by decide +kernel
theorem dX13_count_236 : decode cX13_count 236 = .ok (.istore_n 2, 1) := by decide +kernel
theorem dX13_count_237 : decode cX13_count 237 = .ok (.iinc 3 1, 3) := by decide +kernel
theorem dX13_count_240 : decode cX13_count 240 = .ok (.goto (-20), 3) := by decide +kernel
theorem dX13_count_243 : decode cX13_count 243 = .ok (.iload_n 2, 1) := by decide +kernel
theorem dX13_count_244 : decode cX13_count 244 = .ok (.ireturn, 1) := by decide +kernel
theorem dX13_count_245 : decode cX13_count 245 = .ok (.iconst (-1), 1) := by decide +kernel
theorem dX13_count_246 : decode cX13_count 246 = .ok (.ireturn, 1) := by decide +kernel
