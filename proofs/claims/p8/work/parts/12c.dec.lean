theorem dX13_near_0 : decode cX13_near 0 = .ok (.lload_n 0, 1) := by decide +kernel
theorem dX13_near_1 : decode cX13_near 1 = .ok (.ldc2_w 246, 3) := by decide +kernel
theorem dX13_near_4 : decode cX13_near 4 = .ok (.lcmp, 1) := by decide +kernel
theorem dX13_near_5 : decode cX13_near 5 = .ok (.ifCond .ge 8, 3) := by decide +kernel
theorem dX13_near_8 : decode cX13_near 8 = .ok (.ldc 248, 2) := by decide +kernel
theorem dX13_near_10 : decode cX13_near 10 = .ok (.goto 18, 3) := by decide +kernel
theorem dX13_near_13 : decode cX13_near 13 = .ok (.lload_n 0, 1) := by decide +kernel
theorem dX13_near_14 : decode cX13_near 14 = .ok (.ldc2_w 249, 3) := by decide +kernel
theorem dX13_near_17 : decode cX13_near 17 = .ok (.lcmp, 1) := by decide +kernel
theorem dX13_near_18 : decode cX13_near 18 = .ok (.ifCond .le 8, 3) := by decide +kernel
theorem dX13_near_21 : decode cX13_near 21 = .ok (.ldc 251, 2) := by decide +kernel
theorem dX13_near_23 : decode cX13_near 23 = .ok (.goto 5, 3) := by decide +kernel
theorem dX13_near_26 : decode cX13_near 26 = .ok (.lload_n 0, 1) := by decide +kernel
theorem dX13_near_27 : decode cX13_near 27 = .ok (.l2i, 1) := by decide +kernel
theorem dX13_near_28 : decode cX13_near 28 = .ok (.ireturn, 1) := by decide +kernel
theorem dX13_reckoned_0 : decode cX13_reckoned 0 = .ok (.iconst 0, 1) := by decide +kernel
theorem dX13_reckoned_1 : decode cX13_reckoned 1 = .ok (.istore_n 3, 1) := by decide +kernel
theorem dX13_reckoned_2 : decode cX13_reckoned 2 = .ok (.sipush 600, 3) := by decide +kernel
theorem dX13_reckoned_5 : decode cX13_reckoned 5 = .ok (.iload_n 1, 1) := by decide +kernel
theorem dX13_reckoned_6 : decode cX13_reckoned 6 = .ok (.imul, 1) := by decide +kernel
theorem dX13_reckoned_7 : decode cX13_reckoned 7 = .ok (.aload_n 0, 1) := by decide +kernel
theorem dX13_reckoned_8 : decode cX13_reckoned 8 = .ok (.getfield 44, 3) := by decide +kernel
theorem dX13_reckoned_11 : decode cX13_reckoned 11 = .ok (.bipush 14, 2) := by decide +kernel
theorem dX13_reckoned_13 : decode cX13_reckoned 13 = .ok (.iload_n 1, 1) := by decide +kernel
theorem dX13_reckoned_14 : decode cX13_reckoned 14 = .ok (.imul, 1) := by decide +kernel
theorem dX13_reckoned_15 : decode cX13_reckoned 15 = .ok (.iload_n 2, 1) := by decide +kernel
theorem dX13_reckoned_16 : decode cX13_reckoned 16 = .ok (.iadd, 1) := by decide +kernel
theorem dX13_reckoned_17 : decode cX13_reckoned 17 = .ok (.iaload, 1) := by decide +kernel
theorem dX13_reckoned_18 : decode cX13_reckoned 18 = .ok (.iadd, 1) := by decide +kernel
theorem dX13_reckoned_19 : decode cX13_reckoned 19 = .ok (.istore 4, 2) := by decide +kernel
theorem dX13_reckoned_21 : decode cX13_reckoned 21 = .ok (.sipush 600, 3) := by decide +kernel
theorem dX13_reckoned_24 : decode cX13_reckoned 24 = .ok (.iload_n 1, 1) := by decide +kernel
theorem dX13_reckoned_25 : decode cX13_reckoned 25 = .ok (.imul, 1) := by decide +kernel
theorem dX13_reckoned_26 : decode cX13_reckoned 26 = .ok (.aload_n 0, 1) := by decide +kernel
theorem dX13_reckoned_27 : decode cX13_reckoned 27 = .ok (.getfield 41, 3) := by decide +kernel
theorem dX13_reckoned_30 : decode cX13_reckoned 30 = .ok (.bipush 14, 2) := by decide +kernel
theorem dX13_reckoned_32 : decode cX13_reckoned 32 = .ok (.iload_n 1, 1) := by decide +kernel
theorem dX13_reckoned_33 : decode cX13_reckoned 33 = .ok (.imul, 1) := by decide +kernel
theorem dX13_reckoned_34 : decode cX13_reckoned 34 = .ok (.iload_n 2, 1) := by decide +kernel
theorem dX13_reckoned_35 : decode cX13_reckoned 35 = .ok (.iadd, 1) := by decide +kernel
theorem dX13_reckoned_36 : decode cX13_reckoned 36 = .ok (.iaload, 1) := by decide +kernel
theorem dX13_reckoned_37 : decode cX13_reckoned 37 = .ok (.iadd, 1) := by decide +kernel
theorem dX13_reckoned_38 : decode cX13_reckoned 38 = .ok (.istore 5, 2) := by decide +kernel
theorem dX13_reckoned_40 : decode cX13_reckoned 40 = .ok (.iload 5, 2) := by decide +kernel
theorem dX13_reckoned_42 : decode cX13_reckoned 42 = .ok (.iload 4, 2) := by decide +kernel
theorem dX13_reckoned_44 : decode cX13_reckoned 44 = .ok (.if_icmp .ge 121, 3) := by decide +kernel
theorem dX13_reckoned_47 : decode cX13_reckoned 47 = .ok (.aload_n 0, 1) := by decide +kernel
theorem dX13_reckoned_48 : decode cX13_reckoned 48 = .ok (.getfield 35, 3) := by decide +kernel
theorem dX13_reckoned_51 : decode cX13_reckoned 51 = .ok (.iload 5, 2) := by decide +kernel
theorem dX13_reckoned_53 : decode cX13_reckoned 53 = .ok (.iaload, 1) := by decide +kernel
theorem dX13_reckoned_54 : decode cX13_reckoned 54 = .ok (.istore 6, 2) := by decide +kernel
theorem dX13_reckoned_56 : decode cX13_reckoned 56 = .ok (.iload 6, 2) := by decide +kernel
theorem dX13_reckoned_58 : decode cX13_reckoned 58 = .ok (.iconst 1, 1) := by decide +kernel
theorem dX13_reckoned_59 : decode cX13_reckoned 59 = .ok (.if_icmp .gt 42, 3) := by decide +kernel
theorem dX13_reckoned_62 : decode cX13_reckoned 62 = .ok (.aload_n 0, 1) := by decide +kernel
theorem dX13_reckoned_63 : decode cX13_reckoned 63 = .ok (.getfield 198, 3) := by decide +kernel
theorem dX13_reckoned_66 : decode cX13_reckoned 66 = .ok (.iload_n 3, 1) := by decide +kernel
theorem dX13_reckoned_67 : decode cX13_reckoned 67 = .ok (.iload 6, 2) := by decide +kernel
theorem dX13_reckoned_69 : decode cX13_reckoned 69 = .ok (.ifCond .ne 13, 3) := by decide +kernel
theorem dX13_reckoned_72 : decode cX13_reckoned 72 = .ok (.aload_n 0, 1) := by decide +kernel
theorem dX13_reckoned_73 : decode cX13_reckoned 73 = .ok (.getfield 38, 3) := by decide +kernel
theorem dX13_reckoned_76 : decode cX13_reckoned 76 = .ok (.iload 5, 2) := by decide +kernel
theorem dX13_reckoned_78 : decode cX13_reckoned 78 = .ok (.iaload, 1) := by decide +kernel
theorem dX13_reckoned_79 : decode cX13_reckoned 79 = .ok (.goto 15, 3) := by decide +kernel
theorem dX13_reckoned_82 : decode cX13_reckoned 82 = .ok (.aload_n 0, 1) := by decide +kernel
theorem dX13_reckoned_83 : decode cX13_reckoned 83 = .ok (.getfield 195, 3) := by decide +kernel
theorem dX13_reckoned_86 : decode cX13_reckoned 86 = .ok (.aload_n 0, 1) := by decide +kernel
theorem dX13_reckoned_87 : decode cX13_reckoned 87 = .ok (.getfield 38, 3) := by decide +kernel
theorem dX13_reckoned_90 : decode cX13_reckoned 90 = .ok (.iload 5, 2) := by decide +kernel
theorem dX13_reckoned_92 : decode cX13_reckoned 92 = .ok (.iaload, 1) := by decide +kernel
theorem dX13_reckoned_93 : decode cX13_reckoned 93 = .ok (.iaload, 1) := by decide +kernel
theorem dX13_reckoned_94 : decode cX13_reckoned 94 = .ok (.iastore, 1) := by decide +kernel
theorem dX13_reckoned_95 : decode cX13_reckoned 95 = .ok (.iinc 3 1, 3) := by decide +kernel
theorem dX13_reckoned_98 : decode cX13_reckoned 98 = .ok (.goto 61, 3) := by decide +kernel
theorem dX13_reckoned_101 : decode cX13_reckoned 101 = .ok (.iload 6, 2) := by decide +kernel
theorem dX13_reckoned_103 : decode cX13_reckoned 103 = .ok (.bipush 11, 2) := by decide +kernel
theorem dX13_reckoned_105 : decode cX13_reckoned 105 = .ok (.if_icmp .ne 24, 3) := by decide +kernel
theorem dX13_reckoned_108 : decode cX13_reckoned 108 = .ok (.aload_n 0, 1) := by decide +kernel
theorem dX13_reckoned_109 : decode cX13_reckoned 109 = .ok (.getfield 198, 3) := by decide +kernel
theorem dX13_reckoned_112 : decode cX13_reckoned 112 = .ok (.iload_n 3, 1) := by decide +kernel
theorem dX13_reckoned_113 : decode cX13_reckoned 113 = .ok (.iconst 1, 1) := by decide +kernel
theorem dX13_reckoned_114 : decode cX13_reckoned 114 = .ok (.isub, 1) := by decide +kernel
theorem dX13_reckoned_115 : decode cX13_reckoned 115 = .ok (.iconst 1, 1) := by decide +kernel
theorem dX13_reckoned_116 : decode cX13_reckoned 116 = .ok (.aload_n 0, 1) := by decide +kernel
theorem dX13_reckoned_117 : decode cX13_reckoned 117 = .ok (.getfield 198, 3) := by decide +kernel
theorem dX13_reckoned_120 : decode cX13_reckoned 120 = .ok (.iload_n 3, 1) := by decide +kernel
theorem dX13_reckoned_121 : decode cX13_reckoned 121 = .ok (.iconst 1, 1) := by decide +kernel
theorem dX13_reckoned_122 : decode cX13_reckoned 122 = .ok (.isub, 1) := by decide +kernel
theorem dX13_reckoned_123 : decode cX13_reckoned 123 = .ok (.iaload, 1) := by decide +kernel
theorem dX13_reckoned_124 : decode cX13_reckoned 124 = .ok (.isub, 1) := by decide +kernel
theorem dX13_reckoned_125 : decode cX13_reckoned 125 = .ok (.iastore, 1) := by decide +kernel
theorem dX13_reckoned_126 : decode cX13_reckoned 126 = .ok (.goto 33, 3) := by decide +kernel
theorem dX13_reckoned_129 : decode cX13_reckoned 129 = .ok (.iinc 3 (-1), 3) := by decide +kernel
theorem dX13_reckoned_132 : decode cX13_reckoned 132 = .ok (.aload_n 0, 1) := by decide +kernel
theorem dX13_reckoned_133 : decode cX13_reckoned 133 = .ok (.getfield 198, 3) := by decide +kernel
theorem dX13_reckoned_136 : decode cX13_reckoned 136 = .ok (.iload_n 3, 1) := by decide +kernel
theorem dX13_reckoned_137 : decode cX13_reckoned 137 = .ok (.iconst 1, 1) := by decide +kernel
theorem dX13_reckoned_138 : decode cX13_reckoned 138 = .ok (.isub, 1) := by decide +kernel
theorem dX13_reckoned_139 : decode cX13_reckoned 139 = .ok (.iload 6, 2) := by decide +kernel
theorem dX13_reckoned_141 : decode cX13_reckoned 141 = .ok (.aload_n 0, 1) := by decide +kernel
theorem dX13_reckoned_142 : decode cX13_reckoned 142 = .ok (.getfield 198, 3) := by decide +kernel
theorem dX13_reckoned_145 : decode cX13_reckoned 145 = .ok (.iload_n 3, 1) := by decide +kernel
theorem dX13_reckoned_146 : decode cX13_reckoned 146 = .ok (.iconst 1, 1) := by decide +kernel
theorem dX13_reckoned_147 : decode cX13_reckoned 147 = .ok (.isub, 1) := by decide +kernel
theorem dX13_reckoned_148 : decode cX13_reckoned 148 = .ok (.iaload, 1) := by decide +kernel
theorem dX13_reckoned_149 : decode cX13_reckoned 149 = .ok (.aload_n 0, 1) := by decide +kernel
theorem dX13_reckoned_150 : decode cX13_reckoned 150 = .ok (.getfield 198, 3) := by decide +kernel
theorem dX13_reckoned_153 : decode cX13_reckoned 153 = .ok (.iload_n 3, 1) := by decide +kernel
theorem dX13_reckoned_154 : decode cX13_reckoned 154 = .ok (.iaload, 1) := by decide +kernel
theorem dX13_reckoned_155 : decode cX13_reckoned 155 = .ok (.invokestatic 390, 3) := by decide +kernel
theorem dX13_reckoned_158 : decode cX13_reckoned 158 = .ok (.iastore, 1) := by decide +kernel
theorem dX13_reckoned_159 : decode cX13_reckoned 159 = .ok (.iinc 5 1, 3) := by decide +kernel
theorem dX13_reckoned_162 : decode cX13_reckoned 162 = .ok (.goto (-122), 3) := by decide +kernel
theorem dX13_reckoned_165 : decode cX13_reckoned 165 = .ok (.aload_n 0, 1) := by decide +kernel
theorem dX13_reckoned_166 : decode cX13_reckoned 166 = .ok (.getfield 198, 3) := by decide +kernel
theorem dX13_reckoned_169 : decode cX13_reckoned 169 = .ok (.iconst 0, 1) := by decide +kernel
theorem dX13_reckoned_170 : decode cX13_reckoned 170 = .ok (.iaload, 1) := by decide +kernel
theorem dX13_reckoned_171 : decode cX13_reckoned 171 = .ok (.ireturn, 1) := by decide +kernel
theorem dX13_of_0 : decode cX13_of 0 = .ok (.iload_n 0, 1) := by decide +kernel
theorem dX13_of_1 : decode cX13_of 1 = .ok (.tableswitch 132 2 9 #[47, 56, 65, 74, 86, 97, 108, 119], 47) := by decide +kernel
theorem dX13_of_48 : decode cX13_of 48 = .ok (.iload_n 1, 1) := by decide +kernel
theorem dX13_of_49 : decode cX13_of 49 = .ok (.i2l, 1) := by decide +kernel
theorem dX13_of_50 : decode cX13_of 50 = .ok (.iload_n 2, 1) := by decide +kernel
theorem dX13_of_51 : decode cX13_of 51 = .ok (.i2l, 1) := by decide +kernel
theorem dX13_of_52 : decode cX13_of 52 = .ok (.ladd, 1) := by decide +kernel
theorem dX13_of_53 : decode cX13_of 53 = .ok (.invokestatic 393, 3) := by decide +kernel
theorem dX13_of_56 : decode cX13_of 56 = .ok (.ireturn, 1) := by decide +kernel
theorem dX13_of_57 : decode cX13_of 57 = .ok (.iload_n 1, 1) := by decide +kernel
theorem dX13_of_58 : decode cX13_of 58 = .ok (.i2l, 1) := by decide +kernel
theorem dX13_of_59 : decode cX13_of 59 = .ok (.iload_n 2, 1) := by decide +kernel
theorem dX13_of_60 : decode cX13_of 60 = .ok (.i2l, 1) := by decide +kernel
theorem dX13_of_61 : decode cX13_of 61 = .ok (.lsub, 1) := by decide +kernel
theorem dX13_of_62 : decode cX13_of 62 = .ok (.invokestatic 393, 3) := by decide +kernel
theorem dX13_of_65 : decode cX13_of 65 = .ok (.ireturn, 1) := by decide +kernel
theorem dX13_of_66 : decode cX13_of 66 = .ok (.iload_n 1, 1) := by decide +kernel
theorem dX13_of_67 : decode cX13_of 67 = .ok (.i2l, 1) := by decide +kernel
theorem dX13_of_68 : decode cX13_of 68 = .ok (.iload_n 2, 1) := by decide +kernel
theorem dX13_of_69 : decode cX13_of 69 = .ok (.i2l, 1) := by decide +kernel
theorem dX13_of_70 : decode cX13_of 70 = .ok (.lmul, 1) := by decide +kernel
theorem dX13_of_71 : decode cX13_of 71 = .ok (.invokestatic 393, 3) := by decide +kernel
theorem dX13_of_74 : decode cX13_of 74 = .ok (.ireturn, 1) := by decide +kernel
theorem dX13_of_75 : decode cX13_of 75 = .ok (.iload_n 2, 1) := by decide +kernel
theorem dX13_of_76 : decode cX13_of 76 = .ok (.ifCond .ne 7, 3) := by decide +kernel
theorem dX13_of_79 : decode cX13_of 79 = .ok (.iconst 0, 1) := by decide +kernel
theorem dX13_of_80 : decode cX13_of 80 = .ok (.goto 6, 3) := by decide +kernel
theorem dX13_of_83 : decode cX13_of 83 = .ok (.iload_n 1, 1) := by decide +kernel
theorem dX13_of_84 : decode cX13_of 84 = .ok (.iload_n 2, 1) := by decide +kernel
theorem dX13_of_85 : decode cX13_of 85 = .ok (.idiv, 1) := by decide +kernel
theorem dX13_of_86 : decode cX13_of 86 = .ok (.ireturn, 1) := by decide +kernel
theorem dX13_of_87 : decode cX13_of 87 = .ok (.iload_n 1, 1) := by decide +kernel
theorem dX13_of_88 : decode cX13_of 88 = .ok (.iload_n 2, 1) := by decide +kernel
theorem dX13_of_89 : decode cX13_of 89 = .ok (.if_icmp .ge 7, 3) := by decide +kernel
theorem dX13_of_92 : decode cX13_of 92 = .ok (.iconst 1, 1) := by decide +kernel
theorem dX13_of_93 : decode cX13_of 93 = .ok (.goto 4, 3) := by decide +kernel
theorem dX13_of_96 : decode cX13_of 96 = .ok (.iconst 0, 1) := by decide +kernel
theorem dX13_of_97 : decode cX13_of 97 = .ok (.ireturn, 1) := by decide +kernel
theorem dX13_of_98 : decode cX13_of 98 = .ok (.iload_n 1, 1) := by decide +kernel
theorem dX13_of_99 : decode cX13_of 99 = .ok (.iload_n 2, 1) := by decide +kernel
theorem dX13_of_100 : decode cX13_of 100 = .ok (.if_icmp .le 7, 3) := by decide +kernel
theorem dX13_of_103 : decode cX13_of 103 = .ok (.iconst 1, 1) := by decide +kernel
theorem dX13_of_104 : decode cX13_of 104 = .ok (.goto 4, 3) := by decide +kernel
theorem dX13_of_107 : decode cX13_of 107 = .ok (.iconst 0, 1) := by decide +kernel
theorem dX13_of_108 : decode cX13_of 108 = .ok (.ireturn, 1) := by decide +kernel
theorem dX13_of_109 : decode cX13_of 109 = .ok (.iload_n 1, 1) := by decide +kernel
theorem dX13_of_110 : decode cX13_of 110 = .ok (.iload_n 2, 1) := by decide +kernel
theorem dX13_of_111 : decode cX13_of 111 = .ok (.if_icmp .ne 7, 3) := by decide +kernel
theorem dX13_of_114 : decode cX13_of 114 = .ok (.iconst 1, 1) := by decide +kernel
theorem dX13_of_115 : decode cX13_of 115 = .ok (.goto 4, 3) := by decide +kernel
theorem dX13_of_118 : decode cX13_of 118 = .ok (.iconst 0, 1) := by decide +kernel
theorem dX13_of_119 : decode cX13_of 119 = .ok (.ireturn, 1) := by decide +kernel
theorem dX13_of_120 : decode cX13_of 120 = .ok (.iload_n 1, 1) := by decide +kernel
theorem dX13_of_121 : decode cX13_of 121 = .ok (.iload_n 2, 1) := by decide +kernel
theorem dX13_of_122 : decode cX13_of 122 = .ok (.iadd, 1) := by decide +kernel
theorem dX13_of_123 : decode cX13_of 123 = .ok (.iconst 2, 1) := by decide +kernel
theorem dX13_of_124 : decode cX13_of 124 = .ok (.if_icmp .ne 7, 3) := by decide +kernel
theorem dX13_of_127 : decode cX13_of 127 = .ok (.iconst 1, 1) := by decide +kernel
theorem dX13_of_128 : decode cX13_of 128 = .ok (.goto 4, 3) := by decide +kernel
theorem dX13_of_131 : decode cX13_of 131 = .ok (.iconst 0, 1) := by decide +kernel
theorem dX13_of_132 : decode cX13_of 132 = .ok (.ireturn, 1) := by decide +kernel
theorem dX13_of_133 : decode cX13_of 133 = .ok (.iload_n 1, 1) := by decide +kernel
theorem dX13_of_134 : decode cX13_of 134 = .ok (.iload_n 2, 1) := by decide +kernel
theorem dX13_of_135 : decode cX13_of 135 = .ok (.iadd, 1) := by decide +kernel
theorem dX13_of_136 : decode cX13_of 136 = .ok (.ifCond .le 7, 3) := by decide +kernel
theorem dX13_of_139 : decode cX13_of 139 = .ok (.iconst 1, 1) := by decide +kernel
theorem dX13_of_140 : decode cX13_of 140 = .ok (.goto 4, 3) := by decide +kernel
theorem dX13_of_143 : decode cX13_of 143 = .ok (.iconst 0, 1) := by decide +kernel
theorem dX13_of_144 : decode cX13_of 144 = .ok (.ireturn, 1) := by decide +kernel
theorem dX13_tells_0 : decode cX13_tells 0 = .ok (.aload_n 0, 1) := by decide +kernel
theorem dX13_tells_1 : decode cX13_tells 1 = .ok (.iload_n 1, 1) := by decide +kernel
theorem dX13_tells_2 : decode cX13_tells 2 = .ok (.iload_n 2, 1) := by decide +kernel
theorem dX13_tells_3 : decode cX13_tells 3 = .ok (.iload_n 3, 1) := by decide +kernel
theorem dX13_tells_4 : decode cX13_tells 4 = .ok (.invokevirtual 386, 3) := by decide +kernel
theorem dX13_tells_7 : decode cX13_tells 7 = .ok (.istore 4, 2) := by decide +kernel
theorem dX13_tells_9 : decode cX13_tells 9 = .ok (.iload 4, 2) := by decide +kernel
theorem dX13_tells_11 : decode cX13_tells 11 = .ok (.iconst (-1), 1) := by decide +kernel
theorem dX13_tells_12 : decode cX13_tells 12 = .ok (.if_icmp .ne 10, 3) := by decide +kernel
theorem dX13_tells_15 : decode cX13_tells 15 = .ok (.iload_n 1, 1) := by decide +kernel
theorem dX13_tells_16 : decode cX13_tells 16 = .ok (.invokestatic 397, 3) := by decide +kernel
theorem dX13_tells_19 : decode cX13_tells 19 = .ok (.goto 10, 3) := by decide +kernel
theorem dX13_tells_22 : decode cX13_tells 22 = .ok (.aload_n 0, 1) := by decide +kernel
theorem dX13_tells_23 : decode cX13_tells 23 = .ok (.iload 4, 2) := by decide +kernel
theorem dX13_tells_25 : decode cX13_tells 25 = .ok (.iload_n 1, 1) := by decide +kernel
theorem dX13_tells_26 : decode cX13_tells 26 = .ok (.invokevirtual 401, 3) := by decide +kernel
theorem dX13_tells_29 : decode cX13_tells 29 = .ok (.ireturn, 1) := by decide +kernel
theorem dX13_isSkipped_0 : decode cX13_isSkipped 0 = .ok (.iconst 0, 1) := by decide +kernel
theorem dX13_isSkipped_1 : decode cX13_isSkipped 1 = .ok (.istore 4, 2) := by decide +kernel
theorem dX13_isSkipped_3 : decode cX13_isSkipped 3 = .ok (.iload 4, 2) := by decide +kernel
theorem dX13_isSkipped_5 : decode cX13_isSkipped 5 = .ok (.aload_n 0, 1) := by decide +kernel
theorem dX13_isSkipped_6 : decode cX13_isSkipped 6 = .ok (.getfield 380, 3) := by decide +kernel
theorem dX13_isSkipped_9 : decode cX13_isSkipped 9 = .ok (.if_icmp .ge 154, 3) := by decide +kernel
theorem dX13_isSkipped_12 : decode cX13_isSkipped 12 = .ok (.aload_n 0, 1) := by decide +kernel
theorem dX13_isSkipped_13 : decode cX13_isSkipped 13 = .ok (.getfield 59, 3) := by decide +kernel
theorem dX13_isSkipped_16 : decode cX13_isSkipped 16 = .ok (.iload 4, 2) := by decide +kernel
theorem dX13_isSkipped_18 : decode cX13_isSkipped 18 = .ok (.iaload, 1) := by decide +kernel
theorem dX13_isSkipped_19 : decode cX13_isSkipped 19 = .ok (.iconst (-1), 1) := by decide +kernel
theorem dX13_isSkipped_20 : decode cX13_isSkipped 20 = .ok (.if_icmp .eq 17, 3) := by decide +kernel
theorem dX13_isSkipped_23 : decode cX13_isSkipped 23 = .ok (.aload_n 0, 1) := by decide +kernel
theorem dX13_isSkipped_24 : decode cX13_isSkipped 24 = .ok (.getfield 59, 3) := by decide +kernel
theorem dX13_isSkipped_27 : decode cX13_isSkipped 27 = .ok (.iload 4, 2) := by decide +kernel
theorem dX13_isSkipped_29 : decode cX13_isSkipped 29 = .ok (.iaload, 1) := by decide +kernel
theorem dX13_isSkipped_30 : decode cX13_isSkipped 30 = .ok (.iload_n 3, 1) := by decide +kernel
theorem dX13_isSkipped_31 : decode cX13_isSkipped 31 = .ok (.if_icmp .eq 6, 3) := by decide +kernel
theorem dX13_isSkipped_34 : decode cX13_isSkipped 34 = .ok (.goto 123, 3) := by decide +kernel
theorem dX13_isSkipped_37 : decode cX13_isSkipped 37 = .ok (.iconst 0, 1) := by decide +kernel
theorem dX13_isSkipped_38 : decode cX13_isSkipped 38 = .ok (.istore 5, 2) := by decide +kernel
theorem dX13_isSkipped_40 : decode cX13_isSkipped 40 = .ok (.iload 5, 2) := by decide +kernel
theorem dX13_isSkipped_42 : decode cX13_isSkipped 42 = .ok (.aload_n 0, 1) := by decide +kernel
theorem dX13_isSkipped_43 : decode cX13_isSkipped 43 = .ok (.getfield 47, 3) := by decide +kernel
theorem dX13_isSkipped_46 : decode cX13_isSkipped 46 = .ok (.aload_n 0, 1) := by decide +kernel
theorem dX13_isSkipped_47 : decode cX13_isSkipped 47 = .ok (.getfield 56, 3) := by decide +kernel
theorem dX13_isSkipped_50 : decode cX13_isSkipped 50 = .ok (.iload 4, 2) := by decide +kernel
theorem dX13_isSkipped_52 : decode cX13_isSkipped 52 = .ok (.iaload, 1) := by decide +kernel
theorem dX13_isSkipped_53 : decode cX13_isSkipped 53 = .ok (.iaload, 1) := by decide +kernel
theorem dX13_isSkipped_54 : decode cX13_isSkipped 54 = .ok (.if_icmp .ge 103, 3) := by decide +kernel
theorem dX13_isSkipped_57 : decode cX13_isSkipped 57 = .ok (.iconst 4, 1) := by decide +kernel
theorem dX13_isSkipped_58 : decode cX13_isSkipped 58 = .ok (.aload_n 0, 1) := by decide +kernel
theorem dX13_isSkipped_59 : decode cX13_isSkipped 59 = .ok (.getfield 56, 3) := by decide +kernel
theorem dX13_isSkipped_62 : decode cX13_isSkipped 62 = .ok (.iload 4, 2) := by decide +kernel
theorem dX13_isSkipped_64 : decode cX13_isSkipped 64 = .ok (.iaload, 1) := by decide +kernel
theorem dX13_isSkipped_65 : decode cX13_isSkipped 65 = .ok (.imul, 1) := by decide +kernel
theorem dX13_isSkipped_66 : decode cX13_isSkipped 66 = .ok (.iload 5, 2) := by decide +kernel
theorem dX13_isSkipped_68 : decode cX13_isSkipped 68 = .ok (.iadd, 1) := by decide +kernel
theorem dX13_isSkipped_69 : decode cX13_isSkipped 69 = .ok (.istore 6, 2) := by decide +kernel
theorem dX13_isSkipped_71 : decode cX13_isSkipped 71 = .ok (.aload_n 0, 1) := by decide +kernel
theorem dX13_isSkipped_72 : decode cX13_isSkipped 72 = .ok (.getfield 53, 3) := by decide +kernel
theorem dX13_isSkipped_75 : decode cX13_isSkipped 75 = .ok (.iload 6, 2) := by decide +kernel
theorem dX13_isSkipped_77 : decode cX13_isSkipped 77 = .ok (.iaload, 1) := by decide +kernel
theorem dX13_isSkipped_78 : decode cX13_isSkipped 78 = .ok (.iload_n 2, 1) := by decide +kernel
theorem dX13_isSkipped_79 : decode cX13_isSkipped 79 = .ok (.if_icmp .ne 7, 3) := by decide +kernel
theorem dX13_isSkipped_82 : decode cX13_isSkipped 82 = .ok (.iconst 1, 1) := by decide +kernel
theorem dX13_isSkipped_83 : decode cX13_isSkipped 83 = .ok (.goto 4, 3) := by decide +kernel
theorem dX13_isSkipped_86 : decode cX13_isSkipped 86 = .ok (.iconst 0, 1) := by decide +kernel
theorem dX13_isSkipped_87 : decode cX13_isSkipped 87 = .ok (.istore 7, 2) := by decide +kernel
theorem dX13_isSkipped_89 : decode cX13_isSkipped 89 = .ok (.iconst 0, 1) := by decide +kernel
theorem dX13_isSkipped_90 : decode cX13_isSkipped 90 = .ok (.istore 8, 2) := by decide +kernel
theorem dX13_isSkipped_92 : decode cX13_isSkipped 92 = .ok (.iload 8, 2) := by decide +kernel
theorem dX13_isSkipped_94 : decode cX13_isSkipped 94 = .ok (.iload_n 2, 1) := by decide +kernel
theorem dX13_isSkipped_95 : decode cX13_isSkipped 95 = .ok (.if_icmp .ge 49, 3) := by decide +kernel
theorem dX13_isSkipped_98 : decode cX13_isSkipped 98 = .ok (.iload 7, 2) := by decide +kernel
theorem dX13_isSkipped_100 : decode cX13_isSkipped 100 = .ok (.ifCond .eq 44, 3) := by decide +kernel
theorem dX13_isSkipped_103 : decode cX13_isSkipped 103 = .ok (.aload_n 0, 1) := by decide +kernel
theorem dX13_isSkipped_104 : decode cX13_isSkipped 104 = .ok (.getfield 50, 3) := by decide +kernel
theorem dX13_isSkipped_107 : decode cX13_isSkipped 107 = .ok (.bipush 8, 2) := by decide +kernel
theorem dX13_isSkipped_109 : decode cX13_isSkipped 109 = .ok (.iload 6, 2) := by decide +kernel
theorem dX13_isSkipped_111 : decode cX13_isSkipped 111 = .ok (.imul, 1) := by decide +kernel
theorem dX13_isSkipped_112 : decode cX13_isSkipped 112 = .ok (.iload 8, 2) := by decide +kernel
theorem dX13_isSkipped_114 : decode cX13_isSkipped 114 = .ok (.iadd, 1) := by decide +kernel
theorem dX13_isSkipped_115 : decode cX13_isSkipped 115 = .ok (.baload, 1) := by decide +kernel
theorem dX13_isSkipped_116 : decode cX13_isSkipped 116 = .ok (.aload_n 0, 1) := by decide +kernel
theorem dX13_isSkipped_117 : decode cX13_isSkipped 117 = .ok (.getfield 84, 3) := by decide +kernel
theorem dX13_isSkipped_120 : decode cX13_isSkipped 120 = .ok (.bipush 12, 2) := by decide +kernel
theorem dX13_isSkipped_122 : decode cX13_isSkipped 122 = .ok (.iload_n 1, 1) := by decide +kernel
theorem dX13_isSkipped_123 : decode cX13_isSkipped 123 = .ok (.imul, 1) := by decide +kernel
theorem dX13_isSkipped_124 : decode cX13_isSkipped 124 = .ok (.iload 8, 2) := by decide +kernel
theorem dX13_isSkipped_126 : decode cX13_isSkipped 126 = .ok (.iadd, 1) := by decide +kernel
theorem dX13_isSkipped_127 : decode cX13_isSkipped 127 = .ok (.baload, 1) := by decide +kernel
theorem dX13_isSkipped_128 : decode cX13_isSkipped 128 = .ok (.if_icmp .ne 7, 3) := by decide +kernel
theorem dX13_isSkipped_131 : decode cX13_isSkipped 131 = .ok (.iconst 1, 1) := by decide +kernel
theorem dX13_isSkipped_132 : decode cX13_isSkipped 132 = .ok (.goto 4, 3) := by decide +kernel
theorem dX13_isSkipped_135 : decode cX13_isSkipped 135 = .ok (.iconst 0, 1) := by decide +kernel
theorem dX13_isSkipped_136 : decode cX13_isSkipped 136 = .ok (.istore 7, 2) := by decide +kernel
theorem dX13_isSkipped_138 : decode cX13_isSkipped 138 = .ok (.iinc 8 1, 3) := by decide +kernel
theorem dX13_isSkipped_141 : decode cX13_isSkipped 141 = .ok (.goto (-49), 3) := by decide +kernel
theorem dX13_isSkipped_144 : decode cX13_isSkipped 144 = .ok (.iload 7, 2) := by decide +kernel
theorem dX13_isSkipped_146 : decode cX13_isSkipped 146 = .ok (.ifCond .eq 5, 3) := by decide +kernel
theorem dX13_isSkipped_149 : decode cX13_isSkipped 149 = .ok (.iconst 1, 1) := by decide +kernel
theorem dX13_isSkipped_150 : decode cX13_isSkipped 150 = .ok (.ireturn, 1) := by decide +kernel
theorem dX13_isSkipped_151 : decode cX13_isSkipped 151 = .ok (.iinc 5 1, 3) := by decide +kernel
theorem dX13_isSkipped_154 : decode cX13_isSkipped 154 = .ok (.goto (-114), 3) := by decide +kernel
theorem dX13_isSkipped_157 : decode cX13_isSkipped 157 = .ok (.iinc 4 1, 3) := by decide +kernel
theorem dX13_isSkipped_160 : decode cX13_isSkipped 160 = .ok (.goto (-157), 3) := by decide +kernel
theorem dX13_isSkipped_163 : decode cX13_isSkipped 163 = .ok (.iconst 0, 1) := by decide +kernel
theorem dX13_isSkipped_164 : decode cX13_isSkipped 164 = .ok (.ireturn, 1) := by decide +kernel
theorem dX13_key_0 : decode cX13_key 0 = .ok (.aload_n 0, 1) := by decide +kernel
theorem dX13_key_1 : decode cX13_key 1 = .ok (.iconst 0, 1) := by decide +kernel
theorem dX13_key_2 : decode cX13_key 2 = .ok (.iload_n 2, 1) := by decide +kernel
theorem dX13_key_3 : decode cX13_key 3 = .ok (.aload_n 0, 1) := by decide +kernel
theorem dX13_key_4 : decode cX13_key 4 = .ok (.getfield 383, 3) := by decide +kernel
theorem dX13_key_7 : decode cX13_key 7 = .ok (.invokevirtual 404, 3) := by decide +kernel
theorem dX13_key_10 : decode cX13_key 10 = .ok (.iconst 1, 1) := by decide +kernel
theorem dX13_key_11 : decode cX13_key 11 = .ok (.if_icmp .ne 7, 3) := by decide +kernel
theorem dX13_key_14 : decode cX13_key 14 = .ok (.iconst 1, 1) := by decide +kernel
theorem dX13_key_15 : decode cX13_key 15 = .ok (.goto 4, 3) := by decide +kernel
theorem dX13_key_18 : decode cX13_key 18 = .ok (.iconst 0, 1) := by decide +kernel
theorem dX13_key_19 : decode cX13_key 19 = .ok (.iload_n 3, 1) := by decide +kernel
theorem dX13_key_20 : decode cX13_key 20 = .ok (.iconst 3, 1) := by decide +kernel
theorem dX13_key_21 : decode cX13_key 21 = .ok (.if_icmp .ne 7, 3) := by decide +kernel
theorem dX13_key_24 : decode cX13_key 24 = .ok (.iconst 1, 1) := by decide +kernel
theorem dX13_key_25 : decode cX13_key 25 = .ok (.goto 4, 3) := by decide +kernel
theorem dX13_key_28 : decode cX13_key 28 = .ok (.iconst 0, 1) := by decide +kernel
theorem dX13_key_29 : decode cX13_key 29 = .ok (.if_icmp .eq 7, 3) := by decide +kernel
theorem dX13_key_32 : decode cX13_key 32 = .ok (.iconst 1, 1) := by decide +kernel
theorem dX13_key_33 : decode cX13_key 33 = .ok (.goto 4, 3) := by decide +kernel
theorem dX13_key_36 : decode cX13_key 36 = .ok (.iconst 0, 1) := by decide +kernel
theorem dX13_key_37 : decode cX13_key 37 = .ok (.istore 5, 2) := by decide +kernel
theorem dX13_key_39 : decode cX13_key 39 = .ok (.aload_n 0, 1) := by decide +kernel
theorem dX13_key_40 : decode cX13_key 40 = .ok (.iconst 1, 1) := by decide +kernel
theorem dX13_key_41 : decode cX13_key 41 = .ok (.iload_n 2, 1) := by decide +kernel
theorem dX13_key_42 : decode cX13_key 42 = .ok (.aload_n 0, 1) := by decide +kernel
theorem dX13_key_43 : decode cX13_key 43 = .ok (.getfield 383, 3) := by decide +kernel
theorem dX13_key_46 : decode cX13_key 46 = .ok (.invokevirtual 404, 3) := by decide +kernel
theorem dX13_key_49 : decode cX13_key 49 = .ok (.iconst 1, 1) := by decide +kernel
theorem dX13_key_50 : decode cX13_key 50 = .ok (.if_icmp .ne 7, 3) := by decide +kernel
theorem dX13_key_53 : decode cX13_key 53 = .ok (.iconst 1, 1) := by decide +kernel
theorem dX13_key_54 : decode cX13_key 54 = .ok (.goto 4, 3) := by decide +kernel
theorem dX13_key_57 : decode cX13_key 57 = .ok (.iconst 0, 1) := by decide +kernel
theorem dX13_key_58 : decode cX13_key 58 = .ok (.iload_n 3, 1) := by decide +kernel
theorem dX13_key_59 : decode cX13_key 59 = .ok (.iconst 2, 1) := by decide +kernel
theorem dX13_key_60 : decode cX13_key 60 = .ok (.if_icmp .ne 7, 3) := by decide +kernel
theorem dX13_key_63 : decode cX13_key 63 = .ok (.iconst 1, 1) := by decide +kernel
theorem dX13_key_64 : decode cX13_key 64 = .ok (.goto 4, 3) := by decide +kernel
theorem dX13_key_67 : decode cX13_key 67 = .ok (.iconst 0, 1) := by decide +kernel
theorem dX13_key_68 : decode cX13_key 68 = .ok (.if_icmp .eq 7, 3) := by decide +kernel
theorem dX13_key_71 : decode cX13_key 71 = .ok (.iconst 1, 1) := by decide +kernel
theorem dX13_key_72 : decode cX13_key 72 = .ok (.goto 4, 3) := by decide +kernel
theorem dX13_key_75 : decode cX13_key 75 = .ok (.iconst 0, 1) := by decide +kernel
theorem dX13_key_76 : decode cX13_key 76 = .ok (.istore 6, 2) := by decide +kernel
theorem dX13_key_78 : decode cX13_key 78 = .ok (.iconst 0, 1) := by decide +kernel
theorem dX13_key_79 : decode cX13_key 79 = .ok (.istore 7, 2) := by decide +kernel
theorem dX13_key_81 : decode cX13_key 81 = .ok (.iload 7, 2) := by decide +kernel
theorem dX13_key_83 : decode cX13_key 83 = .ok (.aload_n 0, 1) := by decide +kernel
theorem dX13_key_84 : decode cX13_key 84 = .ok (.getfield 87, 3) := by decide +kernel
theorem dX13_key_87 : decode cX13_key 87 = .ok (.iload_n 1, 1) := by decide +kernel
theorem dX13_key_88 : decode cX13_key 88 = .ok (.iaload, 1) := by decide +kernel
theorem dX13_key_89 : decode cX13_key 89 = .ok (.if_icmp .ge 26, 3) := by decide +kernel
theorem dX13_key_92 : decode cX13_key 92 = .ok (.aload_n 0, 1) := by decide +kernel
theorem dX13_key_93 : decode cX13_key 93 = .ok (.getfield 84, 3) := by decide +kernel
theorem dX13_key_96 : decode cX13_key 96 = .ok (.bipush 12, 2) := by decide +kernel
theorem dX13_key_98 : decode cX13_key 98 = .ok (.iload_n 1, 1) := by decide +kernel
theorem dX13_key_99 : decode cX13_key 99 = .ok (.imul, 1) := by decide +kernel
theorem dX13_key_100 : decode cX13_key 100 = .ok (.iload 7, 2) := by decide +kernel
theorem dX13_key_102 : decode cX13_key 102 = .ok (.iadd, 1) := by decide +kernel
theorem dX13_key_103 : decode cX13_key 103 = .ok (.baload, 1) := by decide +kernel
theorem dX13_key_104 : decode cX13_key 104 = .ok (.bipush 32, 2) := by decide +kernel
theorem dX13_key_106 : decode cX13_key 106 = .ok (.if_icmp .eq 9, 3) := by decide +kernel
theorem dX13_key_109 : decode cX13_key 109 = .ok (.iinc 7 1, 3) := by decide +kernel
theorem dX13_key_112 : decode cX13_key 112 = .ok (.goto (-31), 3) := by decide +kernel
theorem dX13_key_115 : decode cX13_key 115 = .ok (.iload_n 3, 1) := by decide +kernel
theorem dX13_key_116 : decode cX13_key 116 = .ok (.iconst 1, 1) := by decide +kernel
theorem dX13_key_117 : decode cX13_key 117 = .ok (.if_icmp .eq 29, 3) := by decide +kernel
theorem dX13_key_120 : decode cX13_key 120 = .ok (.iload 7, 2) := by decide +kernel
theorem dX13_key_122 : decode cX13_key 122 = .ok (.aload_n 0, 1) := by decide +kernel
theorem dX13_key_123 : decode cX13_key 123 = .ok (.getfield 87, 3) := by decide +kernel
theorem dX13_key_126 : decode cX13_key 126 = .ok (.iload_n 1, 1) := by decide +kernel
theorem dX13_key_127 : decode cX13_key 127 = .ok (.iaload, 1) := by decide +kernel
theorem dX13_key_128 : decode cX13_key 128 = .ok (.if_icmp .ge 18, 3) := by decide +kernel
theorem dX13_key_131 : decode cX13_key 131 = .ok (.aload_n 0, 1) := by decide +kernel
theorem dX13_key_132 : decode cX13_key 132 = .ok (.iload_n 1, 1) := by decide +kernel
theorem dX13_key_133 : decode cX13_key 133 = .ok (.iload 7, 2) := by decide +kernel
theorem dX13_key_135 : decode cX13_key 135 = .ok (.iload_n 2, 1) := by decide +kernel
theorem dX13_key_136 : decode cX13_key 136 = .ok (.invokevirtual 407, 3) := by decide +kernel
theorem dX13_key_139 : decode cX13_key 139 = .ok (.ifCond .eq 7, 3) := by decide +kernel
theorem dX13_key_142 : decode cX13_key 142 = .ok (.iconst 1, 1) := by decide +kernel
theorem dX13_key_143 : decode cX13_key 143 = .ok (.goto 4, 3) := by decide +kernel
theorem dX13_key_146 : decode cX13_key 146 = .ok (.iconst 0, 1) := by decide +kernel
theorem dX13_key_147 : decode cX13_key 147 = .ok (.istore 8, 2) := by decide +kernel
theorem dX13_key_149 : decode cX13_key 149 = .ok (.iload 8, 2) := by decide +kernel
theorem dX13_key_151 : decode cX13_key 151 = .ok (.ifCond .eq 10, 3) := by decide +kernel
theorem dX13_key_154 : decode cX13_key 154 = .ok (.iload 7, 2) := by decide +kernel
theorem dX13_key_156 : decode cX13_key 156 = .ok (.iconst 1, 1) := by decide +kernel
theorem dX13_key_157 : decode cX13_key 157 = .ok (.iadd, 1) := by decide +kernel
theorem dX13_key_158 : decode cX13_key 158 = .ok (.goto 4, 3) := by decide +kernel
theorem dX13_key_161 : decode cX13_key 161 = .ok (.iconst 0, 1) := by decide +kernel
theorem dX13_key_162 : decode cX13_key 162 = .ok (.istore 7, 2) := by decide +kernel
theorem dX13_key_164 : decode cX13_key 164 = .ok (.iconst 0, 1) := by decide +kernel
theorem dX13_key_165 : decode cX13_key 165 = .ok (.istore 9, 2) := by decide +kernel
theorem dX13_key_167 : decode cX13_key 167 = .ok (.iload 7, 2) := by decide +kernel
theorem dX13_key_169 : decode cX13_key 169 = .ok (.istore 10, 2) := by decide +kernel
theorem dX13_key_171 : decode cX13_key 171 = .ok (.iload 10, 2) := by decide +kernel
theorem dX13_key_173 : decode cX13_key 173 = .ok (.aload_n 0, 1) := by decide +kernel
theorem dX13_key_174 : decode cX13_key 174 = .ok (.getfield 87, 3) := by decide +kernel
theorem dX13_key_177 : decode cX13_key 177 = .ok (.iload_n 1, 1) := by decide +kernel
theorem dX13_key_178 : decode cX13_key 178 = .ok (.iaload, 1) := by decide +kernel
theorem dX13_key_179 : decode cX13_key 179 = .ok (.if_icmp .ge 102, 3) := by decide +kernel
theorem dX13_key_182 : decode cX13_key 182 = .ok (.aload_n 0, 1) := by decide +kernel
theorem dX13_key_183 : decode cX13_key 183 = .ok (.getfield 84, 3) := by decide +kernel
theorem dX13_key_186 : decode cX13_key 186 = .ok (.bipush 12, 2) := by decide +kernel
theorem dX13_key_188 : decode cX13_key 188 = .ok (.iload_n 1, 1) := by decide +kernel
theorem dX13_key_189 : decode cX13_key 189 = .ok (.imul, 1) := by decide +kernel
theorem dX13_key_190 : decode cX13_key 190 = .ok (.iload 10, 2) := by decide +kernel
theorem dX13_key_192 : decode cX13_key 192 = .ok (.iadd, 1) := by decide +kernel
theorem dX13_key_193 : decode cX13_key 193 = .ok (.baload, 1) := by decide +kernel
theorem dX13_key_194 : decode cX13_key 194 = .ok (.istore 11, 2) := by decide +kernel
theorem dX13_key_196 : decode cX13_key 196 = .ok (.iload 11, 2) := by decide +kernel
theorem dX13_key_198 : decode cX13_key 198 = .ok (.bipush 32, 2) := by decide +kernel
theorem dX13_key_200 : decode cX13_key 200 = .ok (.if_icmp .ne 11, 3) := by decide +kernel
theorem dX13_key_203 : decode cX13_key 203 = .ok (.iload 6, 2) := by decide +kernel
theorem dX13_key_205 : decode cX13_key 205 = .ok (.ifCond .ne 6, 3) := by decide +kernel
theorem dX13_key_208 : decode cX13_key 208 = .ok (.goto 67, 3) := by decide +kernel
theorem dX13_key_211 : decode cX13_key 211 = .ok (.aload 4, 2) := by decide +kernel
theorem dX13_key_213 : decode cX13_key 213 = .ok (.iload 9, 2) := by decide +kernel
theorem dX13_key_215 : decode cX13_key 215 = .ok (.iload 11, 2) := by decide +kernel
theorem dX13_key_217 : decode cX13_key 217 = .ok (.bipush 32, 2) := by decide +kernel
theorem dX13_key_219 : decode cX13_key 219 = .ok (.if_icmp .ne 7, 3) := by decide +kernel
theorem dX13_key_222 : decode cX13_key 222 = .ok (.iconst 0, 1) := by decide +kernel
theorem dX13_key_223 : decode cX13_key 223 = .ok (.goto 48, 3) := by decide +kernel
theorem dX13_key_226 : decode cX13_key 226 = .ok (.iload 11, 2) := by decide +kernel
theorem dX13_key_228 : decode cX13_key 228 = .ok (.invokestatic 292, 3) := by decide +kernel
theorem dX13_key_231 : decode cX13_key 231 = .ok (.ifCond .eq 23, 3) := by decide +kernel
theorem dX13_key_234 : decode cX13_key 234 = .ok (.iload 11, 2) := by decide +kernel
theorem dX13_key_236 : decode cX13_key 236 = .ok (.bipush 48, 2) := by decide +kernel
theorem dX13_key_238 : decode cX13_key 238 = .ok (.isub, 1) := by decide +kernel
theorem dX13_key_239 : decode cX13_key 239 = .ok (.iload 5, 2) := by decide +kernel
theorem dX13_key_241 : decode cX13_key 241 = .ok (.ifCond .eq 7, 3) := by decide +kernel
theorem dX13_key_244 : decode cX13_key 244 = .ok (.iconst 1, 1) := by decide +kernel
theorem dX13_key_245 : decode cX13_key 245 = .ok (.goto 5, 3) := by decide +kernel
theorem dX13_key_248 : decode cX13_key 248 = .ok (.bipush 27, 2) := by decide +kernel
theorem dX13_key_250 : decode cX13_key 250 = .ok (.iadd, 1) := by decide +kernel
theorem dX13_key_251 : decode cX13_key 251 = .ok (.goto 20, 3) := by decide +kernel
theorem dX13_key_254 : decode cX13_key 254 = .ok (.iload 11, 2) := by decide +kernel
theorem dX13_key_256 : decode cX13_key 256 = .ok (.bipush 97, 2) := by decide +kernel
theorem dX13_key_258 : decode cX13_key 258 = .ok (.isub, 1) := by decide +kernel
theorem dX13_key_259 : decode cX13_key 259 = .ok (.iload 5, 2) := by decide +kernel
theorem dX13_key_261 : decode cX13_key 261 = .ok (.ifCond .eq 8, 3) := by decide +kernel
theorem dX13_key_264 : decode cX13_key 264 = .ok (.bipush 11, 2) := by decide +kernel
theorem dX13_key_266 : decode cX13_key 266 = .ok (.goto 4, 3) := by decide +kernel
theorem dX13_key_269 : decode cX13_key 269 = .ok (.iconst 1, 1) := by decide +kernel
theorem dX13_key_270 : decode cX13_key 270 = .ok (.iadd, 1) := by decide +kernel
theorem dX13_key_271 : decode cX13_key 271 = .ok (.iastore, 1) := by decide +kernel
theorem dX13_key_272 : decode cX13_key 272 = .ok (.iinc 9 1, 3) := by decide +kernel
theorem dX13_key_275 : decode cX13_key 275 = .ok (.iinc 10 1, 3) := by decide +kernel
theorem dX13_key_278 : decode cX13_key 278 = .ok (.goto (-107), 3) := by decide +kernel
theorem dX13_key_281 : decode cX13_key 281 = .ok (.iload 9, 2) := by decide +kernel
theorem dX13_key_283 : decode cX13_key 283 = .ok (.ireturn, 1) := by decide +kernel
theorem dX13_compared_0 : decode cX13_compared 0 = .ok (.aload_n 0, 1) := by decide +kernel
theorem dX13_compared_1 : decode cX13_compared 1 = .ok (.iload_n 1, 1) := by decide +kernel
theorem dX13_compared_2 : decode cX13_compared 2 = .ok (.iload_n 3, 1) := by decide +kernel
theorem dX13_compared_3 : decode cX13_compared 3 = .ok (.iload 4, 2) := by decide +kernel
theorem dX13_compared_5 : decode cX13_compared 5 = .ok (.aload_n 0, 1) := by decide +kernel
theorem dX13_compared_6 : decode cX13_compared 6 = .ok (.getfield 201, 3) := by decide +kernel
theorem dX13_compared_9 : decode cX13_compared 9 = .ok (.invokevirtual 410, 3) := by decide +kernel
theorem dX13_compared_12 : decode cX13_compared 12 = .ok (.istore 5, 2) := by decide +kernel
theorem dX13_compared_14 : decode cX13_compared 14 = .ok (.aload_n 0, 1) := by decide +kernel
theorem dX13_compared_15 : decode cX13_compared 15 = .ok (.iload_n 2, 1) := by decide +kernel
theorem dX13_compared_16 : decode cX13_compared 16 = .ok (.iload_n 3, 1) := by decide +kernel
theorem dX13_compared_17 : decode cX13_compared 17 = .ok (.iload 4, 2) := by decide +kernel
theorem dX13_compared_19 : decode cX13_compared 19 = .ok (.aload_n 0, 1) := by decide +kernel
theorem dX13_compared_20 : decode cX13_compared 20 = .ok (.getfield 204, 3) := by decide +kernel
theorem dX13_compared_23 : decode cX13_compared 23 = .ok (.invokevirtual 410, 3) := by decide +kernel
theorem dX13_compared_26 : decode cX13_compared 26 = .ok (.istore 6, 2) := by decide +kernel
theorem dX13_compared_28 : decode cX13_compared 28 = .ok (.iconst 0, 1) := by decide +kernel
theorem dX13_compared_29 : decode cX13_compared 29 = .ok (.istore 7, 2) := by decide +kernel
theorem dX13_compared_31 : decode cX13_compared 31 = .ok (.iload 7, 2) := by decide +kernel
theorem dX13_compared_33 : decode cX13_compared 33 = .ok (.iload 5, 2) := by decide +kernel
theorem dX13_compared_35 : decode cX13_compared 35 = .ok (.if_icmp .ge 49, 3) := by decide +kernel
theorem dX13_compared_38 : decode cX13_compared 38 = .ok (.iload 7, 2) := by decide +kernel
theorem dX13_compared_40 : decode cX13_compared 40 = .ok (.iload 6, 2) := by decide +kernel
theorem dX13_compared_42 : decode cX13_compared 42 = .ok (.if_icmp .ge 42, 3) := by decide +kernel
theorem dX13_compared_45 : decode cX13_compared 45 = .ok (.aload_n 0, 1) := by decide +kernel
theorem dX13_compared_46 : decode cX13_compared 46 = .ok (.getfield 201, 3) := by decide +kernel
theorem dX13_compared_49 : decode cX13_compared 49 = .ok (.iload 7, 2) := by decide +kernel
theorem dX13_compared_51 : decode cX13_compared 51 = .ok (.iaload, 1) := by decide +kernel
theorem dX13_compared_52 : decode cX13_compared 52 = .ok (.aload_n 0, 1) := by decide +kernel
theorem dX13_compared_53 : decode cX13_compared 53 = .ok (.getfield 204, 3) := by decide +kernel
theorem dX13_compared_56 : decode cX13_compared 56 = .ok (.iload 7, 2) := by decide +kernel
theorem dX13_compared_58 : decode cX13_compared 58 = .ok (.iaload, 1) := by decide +kernel
theorem dX13_compared_59 : decode cX13_compared 59 = .ok (.if_icmp .eq 19, 3) := by decide +kernel
theorem dX13_compared_62 : decode cX13_compared 62 = .ok (.aload_n 0, 1) := by decide +kernel
theorem dX13_compared_63 : decode cX13_compared 63 = .ok (.getfield 201, 3) := by decide +kernel
theorem dX13_compared_66 : decode cX13_compared 66 = .ok (.iload 7, 2) := by decide +kernel
theorem dX13_compared_68 : decode cX13_compared 68 = .ok (.iaload, 1) := by decide +kernel
theorem dX13_compared_69 : decode cX13_compared 69 = .ok (.aload_n 0, 1) := by decide +kernel
theorem dX13_compared_70 : decode cX13_compared 70 = .ok (.getfield 204, 3) := by decide +kernel
theorem dX13_compared_73 : decode cX13_compared 73 = .ok (.iload 7, 2) := by decide +kernel
theorem dX13_compared_75 : decode cX13_compared 75 = .ok (.iaload, 1) := by decide +kernel
theorem dX13_compared_76 : decode cX13_compared 76 = .ok (.isub, 1) := by decide +kernel
theorem dX13_compared_77 : decode cX13_compared 77 = .ok (.ireturn, 1) := by decide +kernel
theorem dX13_compared_78 : decode cX13_compared 78 = .ok (.iinc 7 1, 3) := by decide +kernel
theorem dX13_compared_81 : decode cX13_compared 81 = .ok (.goto (-50), 3) := by decide +kernel
theorem dX13_compared_84 : decode cX13_compared 84 = .ok (.iload 5, 2) := by decide +kernel
theorem dX13_compared_86 : decode cX13_compared 86 = .ok (.iload 6, 2) := by decide +kernel
theorem dX13_compared_88 : decode cX13_compared 88 = .ok (.isub, 1) := by decide +kernel
theorem dX13_compared_89 : decode cX13_compared 89 = .ok (.ireturn, 1) := by decide +kernel
theorem dX13_isAhead_0 : decode cX13_isAhead 0 = .ok (.aload_n 0, 1) := by decide +kernel
theorem dX13_isAhead_1 : decode cX13_isAhead 1 = .ok (.iload_n 1, 1) := by decide +kernel
theorem dX13_isAhead_2 : decode cX13_isAhead 2 = .ok (.iload_n 2, 1) := by decide +kernel
theorem dX13_isAhead_3 : decode cX13_isAhead 3 = .ok (.iload_n 3, 1) := by decide +kernel
theorem dX13_isAhead_4 : decode cX13_isAhead 4 = .ok (.iload 4, 2) := by decide +kernel
theorem dX13_isAhead_6 : decode cX13_isAhead 6 = .ok (.invokevirtual 414, 3) := by decide +kernel
theorem dX13_isAhead_9 : decode cX13_isAhead 9 = .ok (.istore 5, 2) := by decide +kernel
theorem dX13_isAhead_11 : decode cX13_isAhead 11 = .ok (.iload 5, 2) := by decide +kernel
theorem dX13_isAhead_13 : decode cX13_isAhead 13 = .ok (.ifCond .lt 13, 3) := by decide +kernel
theorem dX13_isAhead_16 : decode cX13_isAhead 16 = .ok (.iload 5, 2) := by decide +kernel
theorem dX13_isAhead_18 : decode cX13_isAhead 18 = .ok (.ifCond .ne 12, 3) := by decide +kernel
theorem dX13_isAhead_21 : decode cX13_isAhead 21 = .ok (.iload_n 1, 1) := by decide +kernel
theorem dX13_isAhead_22 : decode cX13_isAhead 22 = .ok (.iload_n 2, 1) := by decide +kernel
theorem dX13_isAhead_23 : decode cX13_isAhead 23 = .ok (.if_icmp .ge 7, 3) := by decide +kernel
theorem dX13_isAhead_26 : decode cX13_isAhead 26 = .ok (.iconst 1, 1) := by decide +kernel
theorem dX13_isAhead_27 : decode cX13_isAhead 27 = .ok (.goto 4, 3) := by decide +kernel
theorem dX13_isAhead_30 : decode cX13_isAhead 30 = .ok (.iconst 0, 1) := by decide +kernel
theorem dX13_isAhead_31 : decode cX13_isAhead 31 = .ok (.ireturn, 1) := by decide +kernel
theorem dX13_headingOf_0 : decode cX13_headingOf 0 = .ok (.iconst 0, 1) := by decide +kernel
theorem dX13_headingOf_1 : decode cX13_headingOf 1 = .ok (.istore 4, 2) := by decide +kernel
theorem dX13_headingOf_3 : decode cX13_headingOf 3 = .ok (.iconst 0, 1) := by decide +kernel
theorem dX13_headingOf_4 : decode cX13_headingOf 4 = .ok (.istore 5, 2) := by decide +kernel
theorem dX13_headingOf_6 : decode cX13_headingOf 6 = .ok (.iconst 0, 1) := by decide +kernel
theorem dX13_headingOf_7 : decode cX13_headingOf 7 = .ok (.istore 6, 2) := by decide +kernel
theorem dX13_headingOf_9 : decode cX13_headingOf 9 = .ok (.iload 6, 2) := by decide +kernel
theorem dX13_headingOf_11 : decode cX13_headingOf 11 = .ok (.bipush 12, 2) := by decide +kernel
theorem dX13_headingOf_13 : decode cX13_headingOf 13 = .ok (.if_icmp .ge 133, 3) := by decide +kernel
theorem dX13_headingOf_16 : decode cX13_headingOf 16 = .ok (.iload 6, 2) := by decide +kernel
theorem dX13_headingOf_18 : decode cX13_headingOf 18 = .ok (.iconst 4, 1) := by decide +kernel
theorem dX13_headingOf_19 : decode cX13_headingOf 19 = .ok (.if_icmp .ge 7, 3) := by decide +kernel
theorem dX13_headingOf_22 : decode cX13_headingOf 22 = .ok (.iload_n 1, 1) := by decide +kernel
theorem dX13_headingOf_23 : decode cX13_headingOf 23 = .ok (.goto 15, 3) := by decide +kernel
theorem dX13_headingOf_26 : decode cX13_headingOf 26 = .ok (.iload 6, 2) := by decide +kernel
theorem dX13_headingOf_28 : decode cX13_headingOf 28 = .ok (.bipush 8, 2) := by decide +kernel
theorem dX13_headingOf_30 : decode cX13_headingOf 30 = .ok (.if_icmp .ge 7, 3) := by decide +kernel
theorem dX13_headingOf_33 : decode cX13_headingOf 33 = .ok (.iload_n 2, 1) := by decide +kernel
theorem dX13_headingOf_34 : decode cX13_headingOf 34 = .ok (.goto 4, 3) := by decide +kernel
theorem dX13_headingOf_37 : decode cX13_headingOf 37 = .ok (.iload_n 3, 1) := by decide +kernel
theorem dX13_headingOf_38 : decode cX13_headingOf 38 = .ok (.bipush 24, 2) := by decide +kernel
theorem dX13_headingOf_40 : decode cX13_headingOf 40 = .ok (.bipush 8, 2) := by decide +kernel
theorem dX13_headingOf_42 : decode cX13_headingOf 42 = .ok (.iload 6, 2) := by decide +kernel
theorem dX13_headingOf_44 : decode cX13_headingOf 44 = .ok (.iconst 4, 1) := by decide +kernel
theorem dX13_headingOf_45 : decode cX13_headingOf 45 = .ok (.irem, 1) := by decide +kernel
theorem dX13_headingOf_46 : decode cX13_headingOf 46 = .ok (.imul, 1) := by decide +kernel
theorem dX13_headingOf_47 : decode cX13_headingOf 47 = .ok (.isub, 1) := by decide +kernel
theorem dX13_headingOf_48 : decode cX13_headingOf 48 = .ok (.ishr, 1) := by decide +kernel
theorem dX13_headingOf_49 : decode cX13_headingOf 49 = .ok (.istore 7, 2) := by decide +kernel
theorem dX13_headingOf_51 : decode cX13_headingOf 51 = .ok (.aload_n 0, 1) := by decide +kernel
theorem dX13_headingOf_52 : decode cX13_headingOf 52 = .ok (.getfield 207, 3) := by decide +kernel
theorem dX13_headingOf_55 : decode cX13_headingOf 55 = .ok (.iload 6, 2) := by decide +kernel
theorem dX13_headingOf_57 : decode cX13_headingOf 57 = .ok (.iload 7, 2) := by decide +kernel
theorem dX13_headingOf_59 : decode cX13_headingOf 59 = .ok (.i2b, 1) := by decide +kernel
theorem dX13_headingOf_60 : decode cX13_headingOf 60 = .ok (.bastore, 1) := by decide +kernel
theorem dX13_headingOf_61 : decode cX13_headingOf 61 = .ok (.aload_n 0, 1) := by decide +kernel
theorem dX13_headingOf_62 : decode cX13_headingOf 62 = .ok (.getfield 207, 3) := by decide +kernel
theorem dX13_headingOf_65 : decode cX13_headingOf 65 = .ok (.iload 6, 2) := by decide +kernel
theorem dX13_headingOf_67 : decode cX13_headingOf 67 = .ok (.baload, 1) := by decide +kernel
theorem dX13_headingOf_68 : decode cX13_headingOf 68 = .ok (.istore 8, 2) := by decide +kernel
theorem dX13_headingOf_70 : decode cX13_headingOf 70 = .ok (.iload 8, 2) := by decide +kernel
theorem dX13_headingOf_72 : decode cX13_headingOf 72 = .ok (.ifCond .ne 9, 3) := by decide +kernel
theorem dX13_headingOf_75 : decode cX13_headingOf 75 = .ok (.iconst 1, 1) := by decide +kernel
theorem dX13_headingOf_76 : decode cX13_headingOf 76 = .ok (.istore 5, 2) := by decide +kernel
theorem dX13_headingOf_78 : decode cX13_headingOf 78 = .ok (.goto 62, 3) := by decide +kernel
theorem dX13_headingOf_81 : decode cX13_headingOf 81 = .ok (.iload 5, 2) := by decide +kernel
theorem dX13_headingOf_83 : decode cX13_headingOf 83 = .ok (.ifCond .ne 52, 3) := by decide +kernel
theorem dX13_headingOf_86 : decode cX13_headingOf 86 = .ok (.iload 8, 2) := by decide +kernel
theorem dX13_headingOf_88 : decode cX13_headingOf 88 = .ok (.bipush 32, 2) := by decide +kernel
theorem dX13_headingOf_90 : decode cX13_headingOf 90 = .ok (.if_icmp .eq 19, 3) := by decide +kernel
theorem dX13_headingOf_93 : decode cX13_headingOf 93 = .ok (.iload 8, 2) := by decide +kernel
theorem dX13_headingOf_95 : decode cX13_headingOf 95 = .ok (.invokestatic 284, 3) := by decide +kernel
theorem dX13_headingOf_98 : decode cX13_headingOf 98 = .ok (.ifCond .ne 11, 3) := by decide +kernel
theorem dX13_headingOf_101 : decode cX13_headingOf 101 = .ok (.iload 8, 2) := by decide +kernel
theorem dX13_headingOf_103 : decode cX13_headingOf 103 = .ok (.invokestatic 292, 3) := by decide +kernel
theorem dX13_headingOf_106 : decode cX13_headingOf 106 = .ok (.ifCond .eq 29, 3) := by decide +kernel
theorem dX13_headingOf_109 : decode cX13_headingOf 109 = .ok (.iload 8, 2) := by decide +kernel
theorem dX13_headingOf_111 : decode cX13_headingOf 111 = .ok (.bipush 32, 2) := by decide +kernel
theorem dX13_headingOf_113 : decode cX13_headingOf 113 = .ok (.if_icmp .ne 24, 3) := by decide +kernel
theorem dX13_headingOf_116 : decode cX13_headingOf 116 = .ok (.iload 6, 2) := by decide +kernel
theorem dX13_headingOf_118 : decode cX13_headingOf 118 = .ok (.ifCond .eq 17, 3) := by decide +kernel
theorem dX13_headingOf_121 : decode cX13_headingOf 121 = .ok (.aload_n 0, 1) := by decide +kernel
theorem dX13_headingOf_122 : decode cX13_headingOf 122 = .ok (.getfield 207, 3) := by decide +kernel
theorem dX13_headingOf_125 : decode cX13_headingOf 125 = .ok (.iload 6, 2) := by decide +kernel
theorem dX13_headingOf_127 : decode cX13_headingOf 127 = .ok (.iconst 1, 1) := by decide +kernel
theorem dX13_headingOf_128 : decode cX13_headingOf 128 = .ok (.isub, 1) := by decide +kernel
theorem dX13_headingOf_129 : decode cX13_headingOf 129 = .ok (.baload, 1) := by decide +kernel
theorem dX13_headingOf_130 : decode cX13_headingOf 130 = .ok (.bipush 32, 2) := by decide +kernel
theorem dX13_headingOf_132 : decode cX13_headingOf 132 = .ok (.if_icmp .ne 5, 3) := by decide +kernel
theorem dX13_headingOf_135 : decode cX13_headingOf 135 = .ok (.iconst 0, 1) := by decide +kernel
theorem dX13_headingOf_136 : decode cX13_headingOf 136 = .ok (.ireturn, 1) := by decide +kernel
theorem dX13_headingOf_137 : decode cX13_headingOf 137 = .ok (.iinc 4 1, 3) := by decide +kernel
theorem dX13_headingOf_140 : decode cX13_headingOf 140 = .ok (.iinc 6 1, 3) := by decide +kernel
theorem dX13_headingOf_143 : decode cX13_headingOf 143 = .ok (.goto (-134), 3) := by decide +kernel
theorem dX13_headingOf_146 : decode cX13_headingOf 146 = .ok (.iload 4, 2) := by decide +kernel
theorem dX13_headingOf_148 : decode cX13_headingOf 148 = .ok (.ifCond .le 21, 3) := by decide +kernel
theorem dX13_headingOf_151 : decode cX13_headingOf 151 = .ok (.aload_n 0, 1) := by decide +kernel
theorem dX13_headingOf_152 : decode cX13_headingOf 152 = .ok (.getfield 207, 3) := by decide +kernel
theorem dX13_headingOf_155 : decode cX13_headingOf 155 = .ok (.iload 4, 2) := by decide +kernel
theorem dX13_headingOf_157 : decode cX13_headingOf 157 = .ok (.iconst 1, 1) := by decide +kernel
theorem dX13_headingOf_158 : decode cX13_headingOf 158 = .ok (.isub, 1) := by decide +kernel
theorem dX13_headingOf_159 : decode cX13_headingOf 159 = .ok (.baload, 1) := by decide +kernel
theorem dX13_headingOf_160 : decode cX13_headingOf 160 = .ok (.bipush 32, 2) := by decide +kernel
theorem dX13_headingOf_162 : decode cX13_headingOf 162 = .ok (.if_icmp .ne 7, 3) := by decide +kernel
theorem dX13_headingOf_165 : decode cX13_headingOf 165 = .ok (.iconst 0, 1) := by decide +kernel
theorem dX13_headingOf_166 : decode cX13_headingOf 166 = .ok (.goto 5, 3) := by decide +kernel
theorem dX13_headingOf_169 : decode cX13_headingOf 169 = .ok (.iload 4, 2) := by decide +kernel
theorem dX13_headingOf_171 : decode cX13_headingOf 171 = .ok (.ireturn, 1) := by decide +kernel
theorem dX13_newEntry_0 : decode cX13_newEntry 0 = .ok (.aload_n 0, 1) := by decide +kernel
theorem dX13_newEntry_1 : decode cX13_newEntry 1 = .ok (.getfield 418, 3) := by decide +kernel
theorem dX13_newEntry_4 : decode cX13_newEntry 4 = .ok (.bipush 60, 2) := by decide +kernel
theorem dX13_newEntry_6 : decode cX13_newEntry 6 = .ok (.if_icmp .ne 5, 3) := by decide +kernel
theorem dX13_newEntry_9 : decode cX13_newEntry 9 = .ok (.iconst (-1), 1) := by decide +kernel
theorem dX13_newEntry_10 : decode cX13_newEntry 10 = .ok (.ireturn, 1) := by decide +kernel
theorem dX13_newEntry_11 : decode cX13_newEntry 11 = .ok (.iconst 0, 1) := by decide +kernel
theorem dX13_newEntry_12 : decode cX13_newEntry 12 = .ok (.istore_n 3, 1) := by decide +kernel
theorem dX13_newEntry_13 : decode cX13_newEntry 13 = .ok (.iload_n 3, 1) := by decide +kernel
theorem dX13_newEntry_14 : decode cX13_newEntry 14 = .ok (.bipush 12, 2) := by decide +kernel
theorem dX13_newEntry_16 : decode cX13_newEntry 16 = .ok (.if_icmp .ge 29, 3) := by decide +kernel
theorem dX13_newEntry_19 : decode cX13_newEntry 19 = .ok (.aload_n 0, 1) := by decide +kernel
theorem dX13_newEntry_20 : decode cX13_newEntry 20 = .ok (.getfield 84, 3) := by decide +kernel
theorem dX13_newEntry_23 : decode cX13_newEntry 23 = .ok (.bipush 12, 2) := by decide +kernel
theorem dX13_newEntry_25 : decode cX13_newEntry 25 = .ok (.aload_n 0, 1) := by decide +kernel
theorem dX13_newEntry_26 : decode cX13_newEntry 26 = .ok (.getfield 418, 3) := by decide +kernel
theorem dX13_newEntry_29 : decode cX13_newEntry 29 = .ok (.imul, 1) := by decide +kernel
theorem dX13_newEntry_30 : decode cX13_newEntry 30 = .ok (.iload_n 3, 1) := by decide +kernel
theorem dX13_newEntry_31 : decode cX13_newEntry 31 = .ok (.iadd, 1) := by decide +kernel
theorem dX13_newEntry_32 : decode cX13_newEntry 32 = .ok (.aload_n 0, 1) := by decide +kernel
theorem dX13_newEntry_33 : decode cX13_newEntry 33 = .ok (.getfield 207, 3) := by decide +kernel
theorem dX13_newEntry_36 : decode cX13_newEntry 36 = .ok (.iload_n 3, 1) := by decide +kernel
theorem dX13_newEntry_37 : decode cX13_newEntry 37 = .ok (.baload, 1) := by decide +kernel
theorem dX13_newEntry_38 : decode cX13_newEntry 38 = .ok (.bastore, 1) := by decide +kernel
theorem dX13_newEntry_39 : decode cX13_newEntry 39 = .ok (.iinc 3 1, 3) := by decide +kernel
theorem dX13_newEntry_42 : decode cX13_newEntry 42 = .ok (.goto (-29), 3) := by decide +kernel
theorem dX13_newEntry_45 : decode cX13_newEntry 45 = .ok (.aload_n 0, 1) := by decide +kernel
theorem dX13_newEntry_46 : decode cX13_newEntry 46 = .ok (.getfield 87, 3) := by decide +kernel
theorem dX13_newEntry_49 : decode cX13_newEntry 49 = .ok (.aload_n 0, 1) := by decide +kernel
theorem dX13_newEntry_50 : decode cX13_newEntry 50 = .ok (.getfield 418, 3) := by decide +kernel
theorem dX13_newEntry_53 : decode cX13_newEntry 53 = .ok (.iload_n 2, 1) := by decide +kernel
theorem dX13_newEntry_54 : decode cX13_newEntry 54 = .ok (.iastore, 1) := by decide +kernel
theorem dX13_newEntry_55 : decode cX13_newEntry 55 = .ok (.aload_n 0, 1) := by decide +kernel
theorem dX13_newEntry_56 : decode cX13_newEntry 56 = .ok (.getfield 90, 3) := by decide +kernel
theorem dX13_newEntry_59 : decode cX13_newEntry 59 = .ok (.aload_n 0, 1) := by decide +kernel
theorem dX13_newEntry_60 : decode cX13_newEntry 60 = .ok (.getfield 418, 3) := by decide +kernel
theorem dX13_newEntry_63 : decode cX13_newEntry 63 = .ok (.iload_n 1, 1) := by decide +kernel
theorem dX13_newEntry_64 : decode cX13_newEntry 64 = .ok (.iastore, 1) := by decide +kernel
theorem dX13_newEntry_65 : decode cX13_newEntry 65 = .ok (.aload_n 0, 1) := by decide +kernel
theorem dX13_newEntry_66 : decode cX13_newEntry 66 = .ok (.getfield 102, 3) := by decide +kernel
theorem dX13_newEntry_69 : decode cX13_newEntry 69 = .ok (.aload_n 0, 1) := by decide +kernel
theorem dX13_newEntry_70 : decode cX13_newEntry 70 = .ok (.getfield 418, 3) := by decide +kernel
theorem dX13_newEntry_73 : decode cX13_newEntry 73 = .ok (.iconst (-1), 1) := by decide +kernel
theorem dX13_newEntry_74 : decode cX13_newEntry 74 = .ok (.iastore, 1) := by decide +kernel
theorem dX13_newEntry_75 : decode cX13_newEntry 75 = .ok (.aload_n 0, 1) := by decide +kernel
theorem dX13_newEntry_76 : decode cX13_newEntry 76 = .ok (.getfield 105, 3) := by decide +kernel
theorem dX13_newEntry_79 : decode cX13_newEntry 79 = .ok (.aload_n 0, 1) := by decide +kernel
theorem dX13_newEntry_80 : decode cX13_newEntry 80 = .ok (.getfield 418, 3) := by decide +kernel
theorem dX13_newEntry_83 : decode cX13_newEntry 83 = .ok (.iconst (-1), 1) := by decide +kernel
theorem dX13_newEntry_84 : decode cX13_newEntry 84 = .ok (.iastore, 1) := by decide +kernel
theorem dX13_newEntry_85 : decode cX13_newEntry 85 = .ok (.aload_n 0, 1) := by decide +kernel
theorem dX13_newEntry_86 : decode cX13_newEntry 86 = .ok (.getfield 114, 3) := by decide +kernel
theorem dX13_newEntry_89 : decode cX13_newEntry 89 = .ok (.aload_n 0, 1) := by decide +kernel
theorem dX13_newEntry_90 : decode cX13_newEntry 90 = .ok (.getfield 418, 3) := by decide +kernel
theorem dX13_newEntry_93 : decode cX13_newEntry 93 = .ok (.iconst (-1), 1) := by decide +kernel
theorem dX13_newEntry_94 : decode cX13_newEntry 94 = .ok (.iastore, 1) := by decide +kernel
theorem dX13_newEntry_95 : decode cX13_newEntry 95 = .ok (.aload_n 0, 1) := by decide +kernel
theorem dX13_newEntry_96 : decode cX13_newEntry 96 = .ok (.getfield 117, 3) := by decide +kernel
theorem dX13_newEntry_99 : decode cX13_newEntry 99 = .ok (.aload_n 0, 1) := by decide +kernel
theorem dX13_newEntry_100 : decode cX13_newEntry 100 = .ok (.getfield 418, 3) := by decide +kernel
theorem dX13_newEntry_103 : decode cX13_newEntry 103 = .ok (.iconst (-1), 1) := by decide +kernel
theorem dX13_newEntry_104 : decode cX13_newEntry 104 = .ok (.iastore, 1) := by decide +kernel
theorem dX13_newEntry_105 : decode cX13_newEntry 105 = .ok (.aload_n 0, 1) := by decide +kernel
theorem dX13_newEntry_106 : decode cX13_newEntry 106 = .ok (.dup, 1) := by decide +kernel
theorem dX13_newEntry_107 : decode cX13_newEntry 107 = .ok (.getfield 418, 3) := by decide +kernel
theorem dX13_newEntry_110 : decode cX13_newEntry 110 = .ok (.iconst 1, 1) := by decide +kernel
theorem dX13_newEntry_111 : decode cX13_newEntry 111 = .ok (.iadd, 1) := by decide +kernel
theorem dX13_newEntry_112 : decode cX13_newEntry 112 = .ok (.putfield 418, 3) := by decide +kernel
theorem dX13_newEntry_115 : decode cX13_newEntry 115 = .ok (.aload_n 0, 1) := by decide +kernel
theorem dX13_newEntry_116 : decode cX13_newEntry 116 = .ok (.getfield 418, 3) := by decide +kernel
theorem dX13_newEntry_119 : decode cX13_newEntry 119 = .ok (.iconst 1, 1) := by decide +kernel
theorem dX13_newEntry_120 : decode cX13_newEntry 120 = .ok (.isub, 1) := by decide +kernel
theorem dX13_newEntry_121 : decode cX13_newEntry 121 = .ok (.ireturn, 1) := by decide +kernel
theorem dX13_article_0 : decode cX13_article 0 = .ok (.aload_n 0, 1) := by decide +kernel
theorem dX13_article_1 : decode cX13_article 1 = .ok (.iload_n 1, 1) := by decide +kernel
theorem dX13_article_2 : decode cX13_article 2 = .ok (.iload_n 2, 1) := by decide +kernel
theorem dX13_article_3 : decode cX13_article 3 = .ok (.iload_n 3, 1) := by decide +kernel
theorem dX13_article_4 : decode cX13_article 4 = .ok (.invokevirtual 424, 3) := by decide +kernel
theorem dX13_article_7 : decode cX13_article 7 = .ok (.istore 5, 2) := by decide +kernel
theorem dX13_article_9 : decode cX13_article 9 = .ok (.iload 5, 2) := by decide +kernel
theorem dX13_article_11 : decode cX13_article 11 = .ok (.ifCond .eq 48, 3) := by decide +kernel
theorem dX13_article_14 : decode cX13_article 14 = .ok (.iload 4, 2) := by decide +kernel
theorem dX13_article_16 : decode cX13_article 16 = .ok (.ifCond .lt 43, 3) := by decide +kernel
theorem dX13_article_19 : decode cX13_article 19 = .ok (.iload 4, 2) := by decide +kernel
theorem dX13_article_21 : decode cX13_article 21 = .ok (.sipush 10000, 3) := by decide +kernel
theorem dX13_article_24 : decode cX13_article 24 = .ok (.idiv, 1) := by decide +kernel
theorem dX13_article_25 : decode cX13_article 25 = .ok (.iconst 2, 1) := by decide +kernel
theorem dX13_article_26 : decode cX13_article 26 = .ok (.if_icmp .gt 33, 3) := by decide +kernel
theorem dX13_article_29 : decode cX13_article 29 = .ok (.iload 4, 2) := by decide +kernel
theorem dX13_article_31 : decode cX13_article 31 = .ok (.sipush 1000, 3) := by decide +kernel
theorem dX13_article_34 : decode cX13_article 34 = .ok (.idiv, 1) := by decide +kernel
theorem dX13_article_35 : decode cX13_article 35 = .ok (.bipush 10, 2) := by decide +kernel
theorem dX13_article_37 : decode cX13_article 37 = .ok (.irem, 1) := by decide +kernel
theorem dX13_article_38 : decode cX13_article 38 = .ok (.bipush 8, 2) := by decide +kernel
theorem dX13_article_40 : decode cX13_article 40 = .ok (.if_icmp .ge 19, 3) := by decide +kernel
theorem dX13_article_43 : decode cX13_article 43 = .ok (.iload 4, 2) := by decide +kernel
theorem dX13_article_45 : decode cX13_article 45 = .ok (.sipush 1000, 3) := by decide +kernel
theorem dX13_article_48 : decode cX13_article 48 = .ok (.irem, 1) := by decide +kernel
theorem dX13_article_49 : decode cX13_article 49 = .ok (.iconst 1, 1) := by decide +kernel
theorem dX13_article_50 : decode cX13_article 50 = .ok (.sipush 200, 3) := by decide +kernel
theorem dX13_article_53 : decode cX13_article 53 = .ok (.invokestatic 256, 3) := by decide +kernel
theorem dX13_article_56 : decode cX13_article 56 = .ok (.ifCond .ne 5, 3) := by decide +kernel
theorem dX13_article_59 : decode cX13_article 59 = .ok (.iconst (-1), 1) := by decide +kernel
theorem dX13_article_60 : decode cX13_article 60 = .ok (.ireturn, 1) := by decide +kernel
theorem dX13_article_61 : decode cX13_article 61 = .ok (.aload_n 0, 1) := by decide +kernel
theorem dX13_article_62 : decode cX13_article 62 = .ok (.iconst 0, 1) := by decide +kernel
theorem dX13_article_63 : decode cX13_article 63 = .ok (.iload 5, 2) := by decide +kernel
theorem dX13_article_65 : decode cX13_article 65 = .ok (.invokevirtual 427, 3) := by decide +kernel
theorem dX13_article_68 : decode cX13_article 68 = .ok (.istore 6, 2) := by decide +kernel
theorem dX13_article_70 : decode cX13_article 70 = .ok (.iload 6, 2) := by decide +kernel
theorem dX13_article_72 : decode cX13_article 72 = .ok (.iconst (-1), 1) := by decide +kernel
theorem dX13_article_73 : decode cX13_article 73 = .ok (.if_icmp .ne 5, 3) := by decide +kernel
theorem dX13_article_76 : decode cX13_article 76 = .ok (.iconst (-1), 1) := by decide +kernel
theorem dX13_article_77 : decode cX13_article 77 = .ok (.ireturn, 1) := by decide +kernel
theorem dX13_article_78 : decode cX13_article 78 = .ok (.aload_n 0, 1) := by decide +kernel
theorem dX13_article_79 : decode cX13_article 79 = .ok (.getfield 93, 3) := by decide +kernel
theorem dX13_article_82 : decode cX13_article 82 = .ok (.iload 6, 2) := by decide +kernel
theorem dX13_article_84 : decode cX13_article 84 = .ok (.iload 4, 2) := by decide +kernel
theorem dX13_article_86 : decode cX13_article 86 = .ok (.sipush 10000, 3) := by decide +kernel
theorem dX13_article_89 : decode cX13_article 89 = .ok (.idiv, 1) := by decide +kernel
theorem dX13_article_90 : decode cX13_article 90 = .ok (.iastore, 1) := by decide +kernel
theorem dX13_article_91 : decode cX13_article 91 = .ok (.aload_n 0, 1) := by decide +kernel
theorem dX13_article_92 : decode cX13_article 92 = .ok (.getfield 96, 3) := by decide +kernel
theorem dX13_article_95 : decode cX13_article 95 = .ok (.iload 6, 2) := by decide +kernel
theorem dX13_article_97 : decode cX13_article 97 = .ok (.iload 4, 2) := by decide +kernel
theorem dX13_article_99 : decode cX13_article 99 = .ok (.sipush 1000, 3) := by decide +kernel
theorem dX13_article_102 : decode cX13_article 102 = .ok (.idiv, 1) := by decide +kernel
theorem dX13_article_103 : decode cX13_article 103 = .ok (.bipush 10, 2) := by decide +kernel
theorem dX13_article_105 : decode cX13_article 105 = .ok (.irem, 1) := by decide +kernel
theorem dX13_article_106 : decode cX13_article 106 = .ok (.iastore, 1) := by decide +kernel
theorem dX13_article_107 : decode cX13_article 107 = .ok (.aload_n 0, 1) := by decide +kernel
theorem dX13_article_108 : decode cX13_article 108 = .ok (.getfield 99, 3) := by decide +kernel
theorem dX13_article_111 : decode cX13_article 111 = .ok (.iload 6, 2) := by decide +kernel
theorem dX13_article_113 : decode cX13_article 113 = .ok (.iload 4, 2) := by decide +kernel
theorem dX13_article_115 : decode cX13_article 115 = .ok (.sipush 1000, 3) := by decide +kernel
theorem dX13_article_118 : decode cX13_article 118 = .ok (.irem, 1) := by decide +kernel
theorem dX13_article_119 : decode cX13_article 119 = .ok (.iastore, 1) := by decide +kernel
theorem dX13_article_120 : decode cX13_article 120 = .ok (.iload 6, 2) := by decide +kernel
theorem dX13_article_122 : decode cX13_article 122 = .ok (.ireturn, 1) := by decide +kernel
theorem dX13_pointer_0 : decode cX13_pointer 0 = .ok (.aload_n 0, 1) := by decide +kernel
theorem dX13_pointer_1 : decode cX13_pointer 1 = .ok (.iload_n 1, 1) := by decide +kernel
theorem dX13_pointer_2 : decode cX13_pointer 2 = .ok (.iload_n 2, 1) := by decide +kernel
theorem dX13_pointer_3 : decode cX13_pointer 3 = .ok (.iload_n 3, 1) := by decide +kernel
theorem dX13_pointer_4 : decode cX13_pointer 4 = .ok (.invokevirtual 424, 3) := by decide +kernel
theorem dX13_pointer_7 : decode cX13_pointer 7 = .ok (.istore 5, 2) := by decide +kernel
theorem dX13_pointer_9 : decode cX13_pointer 9 = .ok (.iload 5, 2) := by decide +kernel
theorem dX13_pointer_11 : decode cX13_pointer 11 = .ok (.ifCond .eq 12, 3) := by decide +kernel
theorem dX13_pointer_14 : decode cX13_pointer 14 = .ok (.aload_n 0, 1) := by decide +kernel
theorem dX13_pointer_15 : decode cX13_pointer 15 = .ok (.iload 4, 2) := by decide +kernel
theorem dX13_pointer_17 : decode cX13_pointer 17 = .ok (.invokevirtual 421, 3) := by decide +kernel
theorem dX13_pointer_20 : decode cX13_pointer 20 = .ok (.ifCond .ne 5, 3) := by decide +kernel
theorem dX13_pointer_23 : decode cX13_pointer 23 = .ok (.iconst (-1), 1) := by decide +kernel
theorem dX13_pointer_24 : decode cX13_pointer 24 = .ok (.ireturn, 1) := by decide +kernel
theorem dX13_pointer_25 : decode cX13_pointer 25 = .ok (.aload_n 0, 1) := by decide +kernel
theorem dX13_pointer_26 : decode cX13_pointer 26 = .ok (.iconst 1, 1) := by decide +kernel
theorem dX13_pointer_27 : decode cX13_pointer 27 = .ok (.iload 5, 2) := by decide +kernel
theorem dX13_pointer_29 : decode cX13_pointer 29 = .ok (.invokevirtual 427, 3) := by decide +kernel
theorem dX13_pointer_32 : decode cX13_pointer 32 = .ok (.istore 6, 2) := by decide +kernel
theorem dX13_pointer_34 : decode cX13_pointer 34 = .ok (.iload 6, 2) := by decide +kernel
theorem dX13_pointer_36 : decode cX13_pointer 36 = .ok (.iconst (-1), 1) := by decide +kernel
theorem dX13_pointer_37 : decode cX13_pointer 37 = .ok (.if_icmp .eq 12, 3) := by decide +kernel
theorem dX13_pointer_40 : decode cX13_pointer 40 = .ok (.aload_n 0, 1) := by decide +kernel
theorem dX13_pointer_41 : decode cX13_pointer 41 = .ok (.getfield 102, 3) := by decide +kernel
theorem dX13_pointer_44 : decode cX13_pointer 44 = .ok (.iload 6, 2) := by decide +kernel
theorem dX13_pointer_46 : decode cX13_pointer 46 = .ok (.iload 4, 2) := by decide +kernel
theorem dX13_pointer_48 : decode cX13_pointer 48 = .ok (.iastore, 1) := by decide +kernel
theorem dX13_pointer_49 : decode cX13_pointer 49 = .ok (.iload 6, 2) := by decide +kernel
theorem dX13_pointer_51 : decode cX13_pointer 51 = .ok (.ireturn, 1) := by decide +kernel
theorem dX13_plate_0 : decode cX13_plate 0 = .ok (.aload_n 0, 1) := by decide +kernel
theorem dX13_plate_1 : decode cX13_plate 1 = .ok (.iload_n 1, 1) := by decide +kernel
theorem dX13_plate_2 : decode cX13_plate 2 = .ok (.iload_n 2, 1) := by decide +kernel
theorem dX13_plate_3 : decode cX13_plate 3 = .ok (.iload_n 3, 1) := by decide +kernel
theorem dX13_plate_4 : decode cX13_plate 4 = .ok (.invokevirtual 424, 3) := by decide +kernel
theorem dX13_plate_7 : decode cX13_plate 7 = .ok (.istore 6, 2) := by decide +kernel
theorem dX13_plate_9 : decode cX13_plate 9 = .ok (.iload 6, 2) := by decide +kernel
theorem dX13_plate_11 : decode cX13_plate 11 = .ok (.ifCond .eq 18, 3) := by decide +kernel
theorem dX13_plate_14 : decode cX13_plate 14 = .ok (.iload 4, 2) := by decide +kernel
theorem dX13_plate_16 : decode cX13_plate 16 = .ok (.ifCond .lt 13, 3) := by decide +kernel
theorem dX13_plate_19 : decode cX13_plate 19 = .ok (.iload 5, 2) := by decide +kernel
theorem dX13_plate_21 : decode cX13_plate 21 = .ok (.iconst 1, 1) := by decide +kernel
theorem dX13_plate_22 : decode cX13_plate 22 = .ok (.iconst 4, 1) := by decide +kernel
theorem dX13_plate_23 : decode cX13_plate 23 = .ok (.invokestatic 256, 3) := by decide +kernel
theorem dX13_plate_26 : decode cX13_plate 26 = .ok (.ifCond .ne 5, 3) := by decide +kernel
theorem dX13_plate_29 : decode cX13_plate 29 = .ok (.iconst (-1), 1) := by decide +kernel
theorem dX13_plate_30 : decode cX13_plate 30 = .ok (.ireturn, 1) := by decide +kernel
theorem dX13_plate_31 : decode cX13_plate 31 = .ok (.iload 4, 2) := by decide +kernel
theorem dX13_plate_33 : decode cX13_plate 33 = .ok (.istore 7, 2) := by decide +kernel
theorem dX13_plate_35 : decode cX13_plate 35 = .ok (.iconst 0, 1) := by decide +kernel
theorem dX13_plate_36 : decode cX13_plate 36 = .ok (.istore 8, 2) := by decide +kernel
theorem dX13_plate_38 : decode cX13_plate 38 = .ok (.iload 8, 2) := by decide +kernel
theorem dX13_plate_40 : decode cX13_plate 40 = .ok (.iload 5, 2) := by decide +kernel
theorem dX13_plate_42 : decode cX13_plate 42 = .ok (.if_icmp .ge 78, 3) := by decide +kernel
theorem dX13_plate_45 : decode cX13_plate 45 = .ok (.aload_n 0, 1) := by decide +kernel
theorem dX13_plate_46 : decode cX13_plate 46 = .ok (.iload 7, 2) := by decide +kernel
theorem dX13_plate_48 : decode cX13_plate 48 = .ok (.bipush 100, 2) := by decide +kernel
theorem dX13_plate_50 : decode cX13_plate 50 = .ok (.irem, 1) := by decide +kernel
theorem dX13_plate_51 : decode cX13_plate 51 = .ok (.invokevirtual 421, 3) := by decide +kernel
theorem dX13_plate_54 : decode cX13_plate 54 = .ok (.ifCond .ne 5, 3) := by decide +kernel
theorem dX13_plate_57 : decode cX13_plate 57 = .ok (.iconst (-1), 1) := by decide +kernel
theorem dX13_plate_58 : decode cX13_plate 58 = .ok (.ireturn, 1) := by decide +kernel
theorem dX13_plate_59 : decode cX13_plate 59 = .ok (.iload 7, 2) := by decide +kernel
theorem dX13_plate_61 : decode cX13_plate 61 = .ok (.bipush 100, 2) := by decide +kernel
theorem dX13_plate_63 : decode cX13_plate 63 = .ok (.idiv, 1) := by decide +kernel
theorem dX13_plate_64 : decode cX13_plate 64 = .ok (.istore 9, 2) := by decide +kernel
theorem dX13_plate_66 : decode cX13_plate 66 = .ok (.iload 8, 2) := by decide +kernel
theorem dX13_plate_68 : decode cX13_plate 68 = .ok (.iconst 1, 1) := by decide +kernel
theorem dX13_plate_69 : decode cX13_plate 69 = .ok (.iadd, 1) := by decide +kernel
theorem dX13_plate_70 : decode cX13_plate 70 = .ok (.istore 10, 2) := by decide +kernel
theorem dX13_plate_72 : decode cX13_plate 72 = .ok (.iload 10, 2) := by decide +kernel
theorem dX13_plate_74 : decode cX13_plate 74 = .ok (.iload 5, 2) := by decide +kernel
theorem dX13_plate_76 : decode cX13_plate 76 = .ok (.if_icmp .ge 31, 3) := by decide +kernel
theorem dX13_plate_79 : decode cX13_plate 79 = .ok (.iload 9, 2) := by decide +kernel
theorem dX13_plate_81 : decode cX13_plate 81 = .ok (.bipush 100, 2) := by decide +kernel
theorem dX13_plate_83 : decode cX13_plate 83 = .ok (.irem, 1) := by decide +kernel
theorem dX13_plate_84 : decode cX13_plate 84 = .ok (.iload 7, 2) := by decide +kernel
theorem dX13_plate_86 : decode cX13_plate 86 = .ok (.bipush 100, 2) := by decide +kernel
theorem dX13_plate_88 : decode cX13_plate 88 = .ok (.irem, 1) := by decide +kernel
theorem dX13_plate_89 : decode cX13_plate 89 = .ok (.if_icmp .ne 5, 3) := by decide +kernel
theorem dX13_plate_92 : decode cX13_plate 92 = .ok (.iconst (-1), 1) := by decide +kernel
theorem dX13_plate_93 : decode cX13_plate 93 = .ok (.ireturn, 1) := by decide +kernel
theorem dX13_plate_94 : decode cX13_plate 94 = .ok (.iload 9, 2) := by decide +kernel
theorem dX13_plate_96 : decode cX13_plate 96 = .ok (.bipush 100, 2) := by decide +kernel
theorem dX13_plate_98 : decode cX13_plate 98 = .ok (.idiv, 1) := by decide +kernel
theorem dX13_plate_99 : decode cX13_plate 99 = .ok (.istore 9, 2) := by decide +kernel
theorem dX13_plate_101 : decode cX13_plate 101 = .ok (.iinc 10 1, 3) := by decide +kernel
theorem dX13_plate_104 : decode cX13_plate 104 = .ok (.goto (-32), 3) := by decide +kernel
theorem dX13_plate_107 : decode cX13_plate 107 = .ok (.iload 7, 2) := by decide +kernel
theorem dX13_plate_109 : decode cX13_plate 109 = .ok (.bipush 100, 2) := by decide +kernel
theorem dX13_plate_111 : decode cX13_plate 111 = .ok (.idiv, 1) := by decide +kernel
theorem dX13_plate_112 : decode cX13_plate 112 = .ok (.istore 7, 2) := by decide +kernel
theorem dX13_plate_114 : decode cX13_plate 114 = .ok (.iinc 8 1, 3) := by decide +kernel
theorem dX13_plate_117 : decode cX13_plate 117 = .ok (.goto (-79), 3) := by decide +kernel
theorem dX13_plate_120 : decode cX13_plate 120 = .ok (.iload 7, 2) := by decide +kernel
theorem dX13_plate_122 : decode cX13_plate 122 = .ok (.ifCond .le 7, 3) := by decide +kernel
theorem dX13_plate_125 : decode cX13_plate 125 = .ok (.iconst (-1), 1) := by decide +kernel
theorem dX13_plate_126 : decode cX13_plate 126 = .ok (.goto 10, 3) := by decide +kernel
theorem dX13_plate_129 : decode cX13_plate 129 = .ok (.aload_n 0, 1) := by decide +kernel
theorem dX13_plate_130 : decode cX13_plate 130 = .ok (.iconst 2, 1) := by decide +kernel
theorem dX13_plate_131 : decode cX13_plate 131 = .ok (.iload 6, 2) := by decide +kernel
theorem dX13_plate_133 : decode cX13_plate 133 = .ok (.invokevirtual 427, 3) := by decide +kernel
theorem dX13_plate_136 : decode cX13_plate 136 = .ok (.ireturn, 1) := by decide +kernel
theorem dX13_points_0 : decode cX13_points 0 = .ok (.aload_n 0, 1) := by decide +kernel
theorem dX13_points_1 : decode cX13_points 1 = .ok (.iload_n 1, 1) := by decide +kernel
theorem dX13_points_2 : decode cX13_points 2 = .ok (.invokevirtual 421, 3) := by decide +kernel
theorem dX13_points_5 : decode cX13_points 5 = .ok (.ifCond .eq 31, 3) := by decide +kernel
theorem dX13_points_8 : decode cX13_points 8 = .ok (.aload_n 0, 1) := by decide +kernel
theorem dX13_points_9 : decode cX13_points 9 = .ok (.getfield 90, 3) := by decide +kernel
theorem dX13_points_12 : decode cX13_points 12 = .ok (.iload_n 1, 1) := by decide +kernel
theorem dX13_points_13 : decode cX13_points 13 = .ok (.iaload, 1) := by decide +kernel
theorem dX13_points_14 : decode cX13_points 14 = .ok (.iconst 1, 1) := by decide +kernel
theorem dX13_points_15 : decode cX13_points 15 = .ok (.if_icmp .ne 21, 3) := by decide +kernel
theorem dX13_points_18 : decode cX13_points 18 = .ok (.aload_n 0, 1) := by decide +kernel
theorem dX13_points_19 : decode cX13_points 19 = .ok (.getfield 114, 3) := by decide +kernel
theorem dX13_points_22 : decode cX13_points 22 = .ok (.iload_n 1, 1) := by decide +kernel
theorem dX13_points_23 : decode cX13_points 23 = .ok (.iaload, 1) := by decide +kernel
theorem dX13_points_24 : decode cX13_points 24 = .ok (.iconst (-1), 1) := by decide +kernel
theorem dX13_points_25 : decode cX13_points 25 = .ok (.if_icmp .ne 11, 3) := by decide +kernel
theorem dX13_points_28 : decode cX13_points 28 = .ok (.aload_n 0, 1) := by decide +kernel
theorem dX13_points_29 : decode cX13_points 29 = .ok (.iload_n 2, 1) := by decide +kernel
theorem dX13_points_30 : decode cX13_points 30 = .ok (.invokevirtual 421, 3) := by decide +kernel
theorem dX13_points_33 : decode cX13_points 33 = .ok (.ifCond .ne 5, 3) := by decide +kernel
theorem dX13_points_36 : decode cX13_points 36 = .ok (.iconst 0, 1) := by decide +kernel
theorem dX13_points_37 : decode cX13_points 37 = .ok (.ireturn, 1) := by decide +kernel
theorem dX13_points_38 : decode cX13_points 38 = .ok (.aload_n 0, 1) := by decide +kernel
theorem dX13_points_39 : decode cX13_points 39 = .ok (.getfield 102, 3) := by decide +kernel
theorem dX13_points_42 : decode cX13_points 42 = .ok (.iload_n 1, 1) := by decide +kernel
theorem dX13_points_43 : decode cX13_points 43 = .ok (.iload_n 2, 1) := by decide +kernel
theorem dX13_points_44 : decode cX13_points 44 = .ok (.iastore, 1) := by decide +kernel
theorem dX13_points_45 : decode cX13_points 45 = .ok (.iconst 1, 1) := by decide +kernel
theorem dX13_points_46 : decode cX13_points 46 = .ok (.ireturn, 1) := by decide +kernel
theorem dX13_byKey_0 : decode cX13_byKey 0 = .ok (.aload_n 0, 1) := by decide +kernel
theorem dX13_byKey_1 : decode cX13_byKey 1 = .ok (.iload_n 1, 1) := by decide +kernel
theorem dX13_byKey_2 : decode cX13_byKey 2 = .ok (.bipush 6, 2) := by decide +kernel
theorem dX13_byKey_4 : decode cX13_byKey 4 = .ok (.iconst 0, 1) := by decide +kernel
theorem dX13_byKey_5 : decode cX13_byKey 5 = .ok (.aload_n 0, 1) := by decide +kernel
theorem dX13_byKey_6 : decode cX13_byKey 6 = .ok (.getfield 201, 3) := by decide +kernel
theorem dX13_byKey_9 : decode cX13_byKey 9 = .ok (.invokevirtual 410, 3) := by decide +kernel
theorem dX13_byKey_12 : decode cX13_byKey 12 = .ok (.pop, 1) := by decide +kernel
theorem dX13_byKey_13 : decode cX13_byKey 13 = .ok (.aload_n 0, 1) := by decide +kernel
theorem dX13_byKey_14 : decode cX13_byKey 14 = .ok (.iconst 0, 1) := by decide +kernel
theorem dX13_byKey_15 : decode cX13_byKey 15 = .ok (.bipush 6, 2) := by decide +kernel
theorem dX13_byKey_17 : decode cX13_byKey 17 = .ok (.aload_n 0, 1) := by decide +kernel
theorem dX13_byKey_18 : decode cX13_byKey 18 = .ok (.getfield 383, 3) := by decide +kernel
theorem dX13_byKey_21 : decode cX13_byKey 21 = .ok (.invokevirtual 404, 3) := by decide +kernel
theorem dX13_byKey_24 : decode cX13_byKey 24 = .ok (.iconst 1, 1) := by decide +kernel
theorem dX13_byKey_25 : decode cX13_byKey 25 = .ok (.if_icmp .ne 7, 3) := by decide +kernel
theorem dX13_byKey_28 : decode cX13_byKey 28 = .ok (.iconst 1, 1) := by decide +kernel
theorem dX13_byKey_29 : decode cX13_byKey 29 = .ok (.goto 4, 3) := by decide +kernel
theorem dX13_byKey_32 : decode cX13_byKey 32 = .ok (.iconst 0, 1) := by decide +kernel
theorem dX13_byKey_33 : decode cX13_byKey 33 = .ok (.istore_n 2, 1) := by decide +kernel
theorem dX13_byKey_34 : decode cX13_byKey 34 = .ok (.aload_n 0, 1) := by decide +kernel
theorem dX13_byKey_35 : decode cX13_byKey 35 = .ok (.getfield 201, 3) := by decide +kernel
theorem dX13_byKey_38 : decode cX13_byKey 38 = .ok (.iconst 0, 1) := by decide +kernel
theorem dX13_byKey_39 : decode cX13_byKey 39 = .ok (.iaload, 1) := by decide +kernel
theorem dX13_byKey_40 : decode cX13_byKey 40 = .ok (.istore_n 3, 1) := by decide +kernel
theorem dX13_byKey_41 : decode cX13_byKey 41 = .ok (.iload_n 2, 1) := by decide +kernel
theorem dX13_byKey_42 : decode cX13_byKey 42 = .ok (.ifCond .eq 17, 3) := by decide +kernel
theorem dX13_byKey_45 : decode cX13_byKey 45 = .ok (.iload_n 3, 1) := by decide +kernel
theorem dX13_byKey_46 : decode cX13_byKey 46 = .ok (.bipush 10, 2) := by decide +kernel
theorem dX13_byKey_48 : decode cX13_byKey 48 = .ok (.if_icmp .gt 7, 3) := by decide +kernel
theorem dX13_byKey_51 : decode cX13_byKey 51 = .ok (.iconst 1, 1) := by decide +kernel
theorem dX13_byKey_52 : decode cX13_byKey 52 = .ok (.goto 18, 3) := by decide +kernel
theorem dX13_byKey_55 : decode cX13_byKey 55 = .ok (.iconst 0, 1) := by decide +kernel
theorem dX13_byKey_56 : decode cX13_byKey 56 = .ok (.goto 14, 3) := by decide +kernel
theorem dX13_byKey_59 : decode cX13_byKey 59 = .ok (.iload_n 3, 1) := by decide +kernel
theorem dX13_byKey_60 : decode cX13_byKey 60 = .ok (.bipush 26, 2) := by decide +kernel
theorem dX13_byKey_62 : decode cX13_byKey 62 = .ok (.if_icmp .le 7, 3) := by decide +kernel
theorem dX13_byKey_65 : decode cX13_byKey 65 = .ok (.iconst 1, 1) := by decide +kernel
theorem dX13_byKey_66 : decode cX13_byKey 66 = .ok (.goto 4, 3) := by decide +kernel
theorem dX13_byKey_69 : decode cX13_byKey 69 = .ok (.iconst 0, 1) := by decide +kernel
theorem dX13_byKey_70 : decode cX13_byKey 70 = .ok (.istore 4, 2) := by decide +kernel
theorem dX13_byKey_72 : decode cX13_byKey 72 = .ok (.iload 4, 2) := by decide +kernel
theorem dX13_byKey_74 : decode cX13_byKey 74 = .ok (.ifCond .eq 13, 3) := by decide +kernel
theorem dX13_byKey_77 : decode cX13_byKey 77 = .ok (.iload_n 2, 1) := by decide +kernel
theorem dX13_byKey_78 : decode cX13_byKey 78 = .ok (.ifCond .eq 7, 3) := by decide +kernel
theorem dX13_byKey_81 : decode cX13_byKey 81 = .ok (.iconst 0, 1) := by decide +kernel
theorem dX13_byKey_82 : decode cX13_byKey 82 = .ok (.goto 4, 3) := by decide +kernel
theorem dX13_byKey_85 : decode cX13_byKey 85 = .ok (.iconst 5, 1) := by decide +kernel
theorem dX13_byKey_86 : decode cX13_byKey 86 = .ok (.ireturn, 1) := by decide +kernel
theorem dX13_byKey_87 : decode cX13_byKey 87 = .ok (.iload_n 2, 1) := by decide +kernel
theorem dX13_byKey_88 : decode cX13_byKey 88 = .ok (.ifCond .eq 10, 3) := by decide +kernel
theorem dX13_byKey_91 : decode cX13_byKey 91 = .ok (.iload_n 3, 1) := by decide +kernel
theorem dX13_byKey_92 : decode cX13_byKey 92 = .ok (.bipush 11, 2) := by decide +kernel
theorem dX13_byKey_94 : decode cX13_byKey 94 = .ok (.isub, 1) := by decide +kernel
theorem dX13_byKey_95 : decode cX13_byKey 95 = .ok (.goto 6, 3) := by decide +kernel
theorem dX13_byKey_98 : decode cX13_byKey 98 = .ok (.iload_n 3, 1) := by decide +kernel
theorem dX13_byKey_99 : decode cX13_byKey 99 = .ok (.iconst 1, 1) := by decide +kernel
theorem dX13_byKey_100 : decode cX13_byKey 100 = .ok (.isub, 1) := by decide +kernel
theorem dX13_byKey_101 : decode cX13_byKey 101 = .ok (.istore 5, 2) := by decide +kernel
theorem dX13_byKey_103 : decode cX13_byKey 103 = .ok (.iconst 0, 1) := by decide +kernel
theorem dX13_byKey_104 : decode cX13_byKey 104 = .ok (.istore 6, 2) := by decide +kernel
theorem dX13_byKey_106 : decode cX13_byKey 106 = .ok (.iload 6, 2) := by decide +kernel
theorem dX13_byKey_108 : decode cX13_byKey 108 = .ok (.iconst 5, 1) := by decide +kernel
theorem dX13_byKey_109 : decode cX13_byKey 109 = .ok (.if_icmp .ge 24, 3) := by decide +kernel
theorem dX13_byKey_112 : decode cX13_byKey 112 = .ok (.iload 5, 2) := by decide +kernel
theorem dX13_byKey_114 : decode cX13_byKey 114 = .ok (.aload_n 0, 1) := by decide +kernel
theorem dX13_byKey_115 : decode cX13_byKey 115 = .ok (.getfield 65, 3) := by decide +kernel
theorem dX13_byKey_118 : decode cX13_byKey 118 = .ok (.iload 6, 2) := by decide +kernel
theorem dX13_byKey_120 : decode cX13_byKey 120 = .ok (.iaload, 1) := by decide +kernel
theorem dX13_byKey_121 : decode cX13_byKey 121 = .ok (.if_icmp .gt 6, 3) := by decide +kernel
theorem dX13_byKey_124 : decode cX13_byKey 124 = .ok (.iload 6, 2) := by decide +kernel
theorem dX13_byKey_126 : decode cX13_byKey 126 = .ok (.ireturn, 1) := by decide +kernel
theorem dX13_byKey_127 : decode cX13_byKey 127 = .ok (.iinc 6 1, 3) := by decide +kernel
theorem dX13_byKey_130 : decode cX13_byKey 130 = .ok (.goto (-24), 3) := by decide +kernel
theorem dX13_byKey_133 : decode cX13_byKey 133 = .ok (.iconst 5, 1) := by decide +kernel
theorem dX13_byKey_134 : decode cX13_byKey 134 = .ok (.ireturn, 1) := by decide +kernel
theorem dX13_volumeOf_0 : decode cX13_volumeOf 0 = .ok (.aload_n 0, 1) := by decide +kernel
theorem dX13_volumeOf_1 : decode cX13_volumeOf 1 = .ok (.getfield 114, 3) := by decide +kernel
theorem dX13_volumeOf_4 : decode cX13_volumeOf 4 = .ok (.iload_n 1, 1) := by decide +kernel
theorem dX13_volumeOf_5 : decode cX13_volumeOf 5 = .ok (.iaload, 1) := by decide +kernel
theorem dX13_volumeOf_6 : decode cX13_volumeOf 6 = .ok (.iconst (-1), 1) := by decide +kernel
theorem dX13_volumeOf_7 : decode cX13_volumeOf 7 = .ok (.if_icmp .eq 10, 3) := by decide +kernel
theorem dX13_volumeOf_10 : decode cX13_volumeOf 10 = .ok (.aload_n 0, 1) := by decide +kernel
theorem dX13_volumeOf_11 : decode cX13_volumeOf 11 = .ok (.getfield 114, 3) := by decide +kernel
theorem dX13_volumeOf_14 : decode cX13_volumeOf 14 = .ok (.iload_n 1, 1) := by decide +kernel
theorem dX13_volumeOf_15 : decode cX13_volumeOf 15 = .ok (.iaload, 1) := by decide +kernel
theorem dX13_volumeOf_16 : decode cX13_volumeOf 16 = .ok (.ireturn, 1) := by decide +kernel
theorem dX13_volumeOf_17 : decode cX13_volumeOf 17 = .ok (.aload_n 0, 1) := by decide +kernel
theorem dX13_volumeOf_18 : decode cX13_volumeOf 18 = .ok (.getfield 111, 3) := by decide +kernel
theorem dX13_volumeOf_21 : decode cX13_volumeOf 21 = .ok (.iload_n 1, 1) := by decide +kernel
theorem dX13_volumeOf_22 : decode cX13_volumeOf 22 = .ok (.baload, 1) := by decide +kernel
theorem dX13_volumeOf_23 : decode cX13_volumeOf 23 = .ok (.ifCond .eq 6, 3) := by decide +kernel
theorem dX13_volumeOf_26 : decode cX13_volumeOf 26 = .ok (.bipush 6, 2) := by decide +kernel
theorem dX13_volumeOf_28 : decode cX13_volumeOf 28 = .ok (.ireturn, 1) := by decide +kernel
theorem dX13_volumeOf_29 : decode cX13_volumeOf 29 = .ok (.aload_n 0, 1) := by decide +kernel
theorem dX13_volumeOf_30 : decode cX13_volumeOf 30 = .ok (.iload_n 1, 1) := by decide +kernel
theorem dX13_volumeOf_31 : decode cX13_volumeOf 31 = .ok (.invokevirtual 430, 3) := by decide +kernel
theorem dX13_volumeOf_34 : decode cX13_volumeOf 34 = .ok (.istore_n 2, 1) := by decide +kernel
theorem dX13_volumeOf_35 : decode cX13_volumeOf 35 = .ok (.aload_n 0, 1) := by decide +kernel
theorem dX13_volumeOf_36 : decode cX13_volumeOf 36 = .ok (.getfield 68, 3) := by decide +kernel
theorem dX13_volumeOf_39 : decode cX13_volumeOf 39 = .ok (.iload_n 2, 1) := by decide +kernel
theorem dX13_volumeOf_40 : decode cX13_volumeOf 40 = .ok (.baload, 1) := by decide +kernel
theorem dX13_volumeOf_41 : decode cX13_volumeOf 41 = .ok (.ifCond .eq 8, 3) := by decide +kernel
theorem dX13_volumeOf_44 : decode cX13_volumeOf 44 = .ok (.bipush 6, 2) := by decide +kernel
theorem dX13_volumeOf_46 : decode cX13_volumeOf 46 = .ok (.goto 4, 3) := by decide +kernel
theorem dX13_volumeOf_49 : decode cX13_volumeOf 49 = .ok (.iload_n 2, 1) := by decide +kernel
theorem dX13_volumeOf_50 : decode cX13_volumeOf 50 = .ok (.ireturn, 1) := by decide +kernel
theorem dX13_volume_0 : decode cX13_volume 0 = .ok (.aload_n 0, 1) := by decide +kernel
theorem dX13_volume_1 : decode cX13_volume 1 = .ok (.iload_n 1, 1) := by decide +kernel
theorem dX13_volume_2 : decode cX13_volume 2 = .ok (.invokevirtual 421, 3) := by decide +kernel
theorem dX13_volume_5 : decode cX13_volume 5 = .ok (.ifCond .eq 11, 3) := by decide +kernel
theorem dX13_volume_8 : decode cX13_volume 8 = .ok (.aload_n 0, 1) := by decide +kernel
theorem dX13_volume_9 : decode cX13_volume 9 = .ok (.iload_n 1, 1) := by decide +kernel
theorem dX13_volume_10 : decode cX13_volume 10 = .ok (.invokevirtual 433, 3) := by decide +kernel
theorem dX13_volume_13 : decode cX13_volume 13 = .ok (.goto 4, 3) := by decide +kernel
theorem dX13_volume_16 : decode cX13_volume 16 = .ok (.iconst (-1), 1) := by decide +kernel
theorem dX13_volume_17 : decode cX13_volume 17 = .ok (.ireturn, 1) := by decide +kernel
theorem dX13_canGo_0 : decode cX13_canGo 0 = .ok (.aload_n 0, 1) := by decide +kernel
theorem dX13_canGo_1 : decode cX13_canGo 1 = .ok (.iload_n 1, 1) := by decide +kernel
theorem dX13_canGo_2 : decode cX13_canGo 2 = .ok (.invokevirtual 421, 3) := by decide +kernel
theorem dX13_canGo_5 : decode cX13_canGo 5 = .ok (.ifCond .eq 36, 3) := by decide +kernel
theorem dX13_canGo_8 : decode cX13_canGo 8 = .ok (.aload_n 0, 1) := by decide +kernel
theorem dX13_canGo_9 : decode cX13_canGo 9 = .ok (.getfield 108, 3) := by decide +kernel
theorem dX13_canGo_12 : decode cX13_canGo 12 = .ok (.iload_n 1, 1) := by decide +kernel
theorem dX13_canGo_13 : decode cX13_canGo 13 = .ok (.baload, 1) := by decide +kernel
theorem dX13_canGo_14 : decode cX13_canGo 14 = .ok (.ifCond .ne 27, 3) := by decide +kernel
theorem dX13_canGo_17 : decode cX13_canGo 17 = .ok (.aload_n 0, 1) := by decide +kernel
theorem dX13_canGo_18 : decode cX13_canGo 18 = .ok (.getfield 114, 3) := by decide +kernel
theorem dX13_canGo_21 : decode cX13_canGo 21 = .ok (.iload_n 1, 1) := by decide +kernel
theorem dX13_canGo_22 : decode cX13_canGo 22 = .ok (.iaload, 1) := by decide +kernel
theorem dX13_canGo_23 : decode cX13_canGo 23 = .ok (.iconst (-1), 1) := by decide +kernel
theorem dX13_canGo_24 : decode cX13_canGo 24 = .ok (.if_icmp .ne 17, 3) := by decide +kernel
theorem dX13_canGo_27 : decode cX13_canGo 27 = .ok (.aload_n 0, 1) := by decide +kernel
theorem dX13_canGo_28 : decode cX13_canGo 28 = .ok (.iload_n 1, 1) := by decide +kernel
theorem dX13_canGo_29 : decode cX13_canGo 29 = .ok (.invokevirtual 433, 3) := by decide +kernel
theorem dX13_canGo_32 : decode cX13_canGo 32 = .ok (.bipush 6, 2) := by decide +kernel
theorem dX13_canGo_34 : decode cX13_canGo 34 = .ok (.if_icmp .eq 7, 3) := by decide +kernel
theorem dX13_canGo_37 : decode cX13_canGo 37 = .ok (.iconst 1, 1) := by decide +kernel
theorem dX13_canGo_38 : decode cX13_canGo 38 = .ok (.goto 4, 3) := by decide +kernel
theorem dX13_canGo_41 : decode cX13_canGo 41 = .ok (.iconst 0, 1) := by decide +kernel
theorem dX13_canGo_42 : decode cX13_canGo 42 = .ok (.ireturn, 1) := by decide +kernel
theorem dX13_strike_0 : decode cX13_strike 0 = .ok (.aload_n 0, 1) := by decide +kernel
theorem dX13_strike_1 : decode cX13_strike 1 = .ok (.iload_n 1, 1) := by decide +kernel
theorem dX13_strike_2 : decode cX13_strike 2 = .ok (.invokevirtual 436, 3) := by decide +kernel
theorem dX13_strike_5 : decode cX13_strike 5 = .ok (.ifCond .ne 5, 3) := by decide +kernel
theorem dX13_strike_8 : decode cX13_strike 8 = .ok (.iconst 0, 1) := by decide +kernel
theorem dX13_strike_9 : decode cX13_strike 9 = .ok (.ireturn, 1) := by decide +kernel
theorem dX13_strike_10 : decode cX13_strike 10 = .ok (.aload_n 0, 1) := by decide +kernel
theorem dX13_strike_11 : decode cX13_strike 11 = .ok (.getfield 108, 3) := by decide +kernel
theorem dX13_strike_14 : decode cX13_strike 14 = .ok (.iload_n 1, 1) := by decide +kernel
theorem dX13_strike_15 : decode cX13_strike 15 = .ok (.iconst 1, 1) := by decide +kernel
theorem dX13_strike_16 : decode cX13_strike 16 = .ok (.bastore, 1) := by decide +kernel
theorem dX13_strike_17 : decode cX13_strike 17 = .ok (.iconst 1, 1) := by decide +kernel
theorem dX13_strike_18 : decode cX13_strike 18 = .ok (.ireturn, 1) := by decide +kernel
theorem dX13_later_0 : decode cX13_later 0 = .ok (.aload_n 0, 1) := by decide +kernel
theorem dX13_later_1 : decode cX13_later 1 = .ok (.iload_n 1, 1) := by decide +kernel
theorem dX13_later_2 : decode cX13_later 2 = .ok (.invokevirtual 436, 3) := by decide +kernel
theorem dX13_later_5 : decode cX13_later 5 = .ok (.ifCond .ne 5, 3) := by decide +kernel
theorem dX13_later_8 : decode cX13_later 8 = .ok (.iconst 0, 1) := by decide +kernel
theorem dX13_later_9 : decode cX13_later 9 = .ok (.ireturn, 1) := by decide +kernel
theorem dX13_later_10 : decode cX13_later 10 = .ok (.aload_n 0, 1) := by decide +kernel
theorem dX13_later_11 : decode cX13_later 11 = .ok (.getfield 111, 3) := by decide +kernel
theorem dX13_later_14 : decode cX13_later 14 = .ok (.iload_n 1, 1) := by decide +kernel
theorem dX13_later_15 : decode cX13_later 15 = .ok (.iconst 1, 1) := by decide +kernel
theorem dX13_later_16 : decode cX13_later 16 = .ok (.bastore, 1) := by decide +kernel
theorem dX13_later_17 : decode cX13_later 17 = .ok (.iconst 1, 1) := by decide +kernel
theorem dX13_later_18 : decode cX13_later 18 = .ok (.ireturn, 1) := by decide +kernel
theorem dX13_orders_0 : decode cX13_orders 0 = .ok (.aload_n 0, 1) := by decide +kernel
theorem dX13_orders_1 : decode cX13_orders 1 = .ok (.getfield 68, 3) := by decide +kernel
theorem dX13_orders_4 : decode cX13_orders 4 = .ok (.iload_n 1, 1) := by decide +kernel
theorem dX13_orders_5 : decode cX13_orders 5 = .ok (.baload, 1) := by decide +kernel
theorem dX13_orders_6 : decode cX13_orders 6 = .ok (.ifCond .eq 45, 3) := by decide +kernel
theorem dX13_orders_9 : decode cX13_orders 9 = .ok (.iconst 0, 1) := by decide +kernel
theorem dX13_orders_10 : decode cX13_orders 10 = .ok (.istore_n 2, 1) := by decide +kernel
theorem dX13_orders_11 : decode cX13_orders 11 = .ok (.iload_n 2, 1) := by decide +kernel
theorem dX13_orders_12 : decode cX13_orders 12 = .ok (.aload_n 0, 1) := by decide +kernel
theorem dX13_orders_13 : decode cX13_orders 13 = .ok (.getfield 75, 3) := by decide +kernel
theorem dX13_orders_16 : decode cX13_orders 16 = .ok (.iload_n 1, 1) := by decide +kernel
theorem dX13_orders_17 : decode cX13_orders 17 = .ok (.iaload, 1) := by decide +kernel
theorem dX13_orders_18 : decode cX13_orders 18 = .ok (.if_icmp .ge 26, 3) := by decide +kernel
theorem dX13_orders_21 : decode cX13_orders 21 = .ok (.aload_n 0, 1) := by decide +kernel
theorem dX13_orders_22 : decode cX13_orders 22 = .ok (.getfield 210, 3) := by decide +kernel
theorem dX13_orders_25 : decode cX13_orders 25 = .ok (.iload_n 2, 1) := by decide +kernel
theorem dX13_orders_26 : decode cX13_orders 26 = .ok (.aload_n 0, 1) := by decide +kernel
theorem dX13_orders_27 : decode cX13_orders 27 = .ok (.getfield 78, 3) := by decide +kernel
theorem dX13_orders_30 : decode cX13_orders 30 = .ok (.bipush 60, 2) := by decide +kernel
theorem dX13_orders_32 : decode cX13_orders 32 = .ok (.iload_n 1, 1) := by decide +kernel
theorem dX13_orders_33 : decode cX13_orders 33 = .ok (.imul, 1) := by decide +kernel
theorem dX13_orders_34 : decode cX13_orders 34 = .ok (.iload_n 2, 1) := by decide +kernel
theorem dX13_orders_35 : decode cX13_orders 35 = .ok (.iadd, 1) := by decide +kernel
theorem dX13_orders_36 : decode cX13_orders 36 = .ok (.iaload, 1) := by decide +kernel
theorem dX13_orders_37 : decode cX13_orders 37 = .ok (.iastore, 1) := by decide +kernel
theorem dX13_orders_38 : decode cX13_orders 38 = .ok (.iinc 2 1, 3) := by decide +kernel
theorem dX13_orders_41 : decode cX13_orders 41 = .ok (.goto (-30), 3) := by decide +kernel
theorem dX13_orders_44 : decode cX13_orders 44 = .ok (.aload_n 0, 1) := by decide +kernel
theorem dX13_orders_45 : decode cX13_orders 45 = .ok (.getfield 75, 3) := by decide +kernel
theorem dX13_orders_48 : decode cX13_orders 48 = .ok (.iload_n 1, 1) := by decide +kernel
theorem dX13_orders_49 : decode cX13_orders 49 = .ok (.iaload, 1) := by decide +kernel
theorem dX13_orders_50 : decode cX13_orders 50 = .ok (.ireturn, 1) := by decide +kernel
theorem dX13_orders_51 : decode cX13_orders 51 = .ok (.iconst 0, 1) := by decide +kernel
theorem dX13_orders_52 : decode cX13_orders 52 = .ok (.istore_n 2, 1) := by decide +kernel
theorem dX13_orders_53 : decode cX13_orders 53 = .ok (.iconst 0, 1) := by decide +kernel
theorem dX13_orders_54 : decode cX13_orders 54 = .ok (.istore_n 3, 1) := by decide +kernel
theorem dX13_orders_55 : decode cX13_orders 55 = .ok (.iload_n 3, 1) := by decide +kernel
theorem dX13_orders_56 : decode cX13_orders 56 = .ok (.aload_n 0, 1) := by decide +kernel
theorem dX13_orders_57 : decode cX13_orders 57 = .ok (.getfield 418, 3) := by decide +kernel
theorem dX13_orders_60 : decode cX13_orders 60 = .ok (.if_icmp .ge 81, 3) := by decide +kernel
theorem dX13_orders_63 : decode cX13_orders 63 = .ok (.aload_n 0, 1) := by decide +kernel
theorem dX13_orders_64 : decode cX13_orders 64 = .ok (.iload_n 3, 1) := by decide +kernel
theorem dX13_orders_65 : decode cX13_orders 65 = .ok (.invokevirtual 433, 3) := by decide +kernel
theorem dX13_orders_68 : decode cX13_orders 68 = .ok (.iload_n 1, 1) := by decide +kernel
theorem dX13_orders_69 : decode cX13_orders 69 = .ok (.if_icmp .eq 6, 3) := by decide +kernel
theorem dX13_orders_72 : decode cX13_orders 72 = .ok (.goto 63, 3) := by decide +kernel
theorem dX13_orders_75 : decode cX13_orders 75 = .ok (.iload_n 2, 1) := by decide +kernel
theorem dX13_orders_76 : decode cX13_orders 76 = .ok (.istore 4, 2) := by decide +kernel
theorem dX13_orders_78 : decode cX13_orders 78 = .ok (.iload 4, 2) := by decide +kernel
theorem dX13_orders_80 : decode cX13_orders 80 = .ok (.ifCond .le 44, 3) := by decide +kernel
theorem dX13_orders_83 : decode cX13_orders 83 = .ok (.aload_n 0, 1) := by decide +kernel
theorem dX13_orders_84 : decode cX13_orders 84 = .ok (.iload_n 3, 1) := by decide +kernel
theorem dX13_orders_85 : decode cX13_orders 85 = .ok (.aload_n 0, 1) := by decide +kernel
theorem dX13_orders_86 : decode cX13_orders 86 = .ok (.getfield 210, 3) := by decide +kernel
theorem dX13_orders_89 : decode cX13_orders 89 = .ok (.iload 4, 2) := by decide +kernel
theorem dX13_orders_91 : decode cX13_orders 91 = .ok (.iconst 1, 1) := by decide +kernel
theorem dX13_orders_92 : decode cX13_orders 92 = .ok (.isub, 1) := by decide +kernel
theorem dX13_orders_93 : decode cX13_orders 93 = .ok (.iaload, 1) := by decide +kernel
theorem dX13_orders_94 : decode cX13_orders 94 = .ok (.iload_n 1, 1) := by decide +kernel
theorem dX13_orders_95 : decode cX13_orders 95 = .ok (.iconst 0, 1) := by decide +kernel
theorem dX13_orders_96 : decode cX13_orders 96 = .ok (.invokevirtual 439, 3) := by decide +kernel
theorem dX13_orders_99 : decode cX13_orders 99 = .ok (.ifCond .eq 25, 3) := by decide +kernel
theorem dX13_orders_102 : decode cX13_orders 102 = .ok (.aload_n 0, 1) := by decide +kernel
theorem dX13_orders_103 : decode cX13_orders 103 = .ok (.getfield 210, 3) := by decide +kernel
theorem dX13_orders_106 : decode cX13_orders 106 = .ok (.iload 4, 2) := by decide +kernel
theorem dX13_orders_108 : decode cX13_orders 108 = .ok (.aload_n 0, 1) := by decide +kernel
theorem dX13_orders_109 : decode cX13_orders 109 = .ok (.getfield 210, 3) := by decide +kernel
theorem dX13_orders_112 : decode cX13_orders 112 = .ok (.iload 4, 2) := by decide +kernel
theorem dX13_orders_114 : decode cX13_orders 114 = .ok (.iconst 1, 1) := by decide +kernel
theorem dX13_orders_115 : decode cX13_orders 115 = .ok (.isub, 1) := by decide +kernel
theorem dX13_orders_116 : decode cX13_orders 116 = .ok (.iaload, 1) := by decide +kernel
theorem dX13_orders_117 : decode cX13_orders 117 = .ok (.iastore, 1) := by decide +kernel
theorem dX13_orders_118 : decode cX13_orders 118 = .ok (.iinc 4 (-1), 3) := by decide +kernel
theorem dX13_orders_121 : decode cX13_orders 121 = .ok (.goto (-43), 3) := by decide +kernel
theorem dX13_orders_124 : decode cX13_orders 124 = .ok (.aload_n 0, 1) := by decide +kernel
theorem dX13_orders_125 : decode cX13_orders 125 = .ok (.getfield 210, 3) := by decide +kernel
theorem dX13_orders_128 : decode cX13_orders 128 = .ok (.iload 4, 2) := by decide +kernel
theorem dX13_orders_130 : decode cX13_orders 130 = .ok (.iload_n 3, 1) := by decide +kernel
theorem dX13_orders_131 : decode cX13_orders 131 = .ok (.iastore, 1) := by decide +kernel
theorem dX13_orders_132 : decode cX13_orders 132 = .ok (.iinc 2 1, 3) := by decide +kernel
theorem dX13_orders_135 : decode cX13_orders 135 = .ok (.iinc 3 1, 3) := by decide +kernel
theorem dX13_orders_138 : decode cX13_orders 138 = .ok (.goto (-83), 3) := by decide +kernel
theorem dX13_orders_141 : decode cX13_orders 141 = .ok (.iload_n 2, 1) := by decide +kernel
theorem dX13_orders_142 : decode cX13_orders 142 = .ok (.ireturn, 1) := by decide +kernel
theorem dX13_at_0 : decode cX13_at 0 = .ok (.iload_n 1, 1) := by decide +kernel
theorem dX13_at_1 : decode cX13_at 1 = .ok (.invokestatic 377, 3) := by decide +kernel
theorem dX13_at_4 : decode cX13_at 4 = .ok (.ifCond .eq 27, 3) := by decide +kernel
theorem dX13_at_7 : decode cX13_at 7 = .ok (.iload_n 2, 1) := by decide +kernel
theorem dX13_at_8 : decode cX13_at 8 = .ok (.iconst 0, 1) := by decide +kernel
theorem dX13_at_9 : decode cX13_at 9 = .ok (.aload_n 0, 1) := by decide +kernel
theorem dX13_at_10 : decode cX13_at 10 = .ok (.iload_n 1, 1) := by decide +kernel
theorem dX13_at_11 : decode cX13_at 11 = .ok (.invokevirtual 442, 3) := by decide +kernel
theorem dX13_at_14 : decode cX13_at 14 = .ok (.iconst 1, 1) := by decide +kernel
theorem dX13_at_15 : decode cX13_at 15 = .ok (.isub, 1) := by decide +kernel
theorem dX13_at_16 : decode cX13_at 16 = .ok (.invokestatic 256, 3) := by decide +kernel
theorem dX13_at_19 : decode cX13_at 19 = .ok (.ifCond .eq 12, 3) := by decide +kernel
theorem dX13_at_22 : decode cX13_at 22 = .ok (.aload_n 0, 1) := by decide +kernel
theorem dX13_at_23 : decode cX13_at 23 = .ok (.getfield 210, 3) := by decide +kernel
theorem dX13_at_26 : decode cX13_at 26 = .ok (.iload_n 2, 1) := by decide +kernel
theorem dX13_at_27 : decode cX13_at 27 = .ok (.iaload, 1) := by decide +kernel
theorem dX13_at_28 : decode cX13_at 28 = .ok (.goto 4, 3) := by decide +kernel
theorem dX13_at_31 : decode cX13_at 31 = .ok (.iconst (-1), 1) := by decide +kernel
theorem dX13_at_32 : decode cX13_at 32 = .ok (.ireturn, 1) := by decide +kernel
theorem dX13_why_0 : decode cX13_why 0 = .ok (.aload_n 0, 1) := by decide +kernel
theorem dX13_why_1 : decode cX13_why 1 = .ok (.iload_n 1, 1) := by decide +kernel
theorem dX13_why_2 : decode cX13_why 2 = .ok (.invokevirtual 421, 3) := by decide +kernel
theorem dX13_why_5 : decode cX13_why 5 = .ok (.ifCond .eq 16, 3) := by decide +kernel
theorem dX13_why_8 : decode cX13_why 8 = .ok (.aload_n 0, 1) := by decide +kernel
theorem dX13_why_9 : decode cX13_why 9 = .ok (.iload_n 2, 1) := by decide +kernel
theorem dX13_why_10 : decode cX13_why 10 = .ok (.invokevirtual 421, 3) := by decide +kernel
theorem dX13_why_13 : decode cX13_why 13 = .ok (.ifCond .eq 8, 3) := by decide +kernel
theorem dX13_why_16 : decode cX13_why 16 = .ok (.iload_n 1, 1) := by decide +kernel
theorem dX13_why_17 : decode cX13_why 17 = .ok (.iload_n 2, 1) := by decide +kernel
theorem dX13_why_18 : decode cX13_why 18 = .ok (.if_icmp .ne 5, 3) := by decide +kernel
theorem dX13_why_21 : decode cX13_why 21 = .ok (.iconst (-1), 1) := by decide +kernel
theorem dX13_why_22 : decode cX13_why 22 = .ok (.ireturn, 1) := by decide +kernel
theorem dX13_why_23 : decode cX13_why 23 = .ok (.aload_n 0, 1) := by decide +kernel
theorem dX13_why_24 : decode cX13_why 24 = .ok (.iload_n 1, 1) := by decide +kernel
theorem dX13_why_25 : decode cX13_why 25 = .ok (.iload_n 2, 1) := by decide +kernel
theorem dX13_why_26 : decode cX13_why 26 = .ok (.bipush 6, 2) := by decide +kernel
theorem dX13_why_28 : decode cX13_why 28 = .ok (.iconst 0, 1) := by decide +kernel
theorem dX13_why_29 : decode cX13_why 29 = .ok (.invokevirtual 414, 3) := by decide +kernel
theorem dX13_why_32 : decode cX13_why 32 = .ok (.ifCond .ne 5, 3) := by decide +kernel
theorem dX13_why_35 : decode cX13_why 35 = .ok (.iconst 4, 1) := by decide +kernel
theorem dX13_why_36 : decode cX13_why 36 = .ok (.ireturn, 1) := by decide +kernel
theorem dX13_why_37 : decode cX13_why 37 = .ok (.iconst 1, 1) := by decide +kernel
theorem dX13_why_38 : decode cX13_why 38 = .ok (.istore_n 3, 1) := by decide +kernel
theorem dX13_why_39 : decode cX13_why 39 = .ok (.iload_n 3, 1) := by decide +kernel
theorem dX13_why_40 : decode cX13_why 40 = .ok (.iconst 4, 1) := by decide +kernel
theorem dX13_why_41 : decode cX13_why 41 = .ok (.if_icmp .ge 32, 3) := by decide +kernel
theorem dX13_why_44 : decode cX13_why 44 = .ok (.aload_n 0, 1) := by decide +kernel
theorem dX13_why_45 : decode cX13_why 45 = .ok (.iload_n 1, 1) := by decide +kernel
theorem dX13_why_46 : decode cX13_why 46 = .ok (.iload_n 2, 1) := by decide +kernel
theorem dX13_why_47 : decode cX13_why 47 = .ok (.bipush 6, 2) := by decide +kernel
theorem dX13_why_49 : decode cX13_why 49 = .ok (.iload_n 3, 1) := by decide +kernel
theorem dX13_why_50 : decode cX13_why 50 = .ok (.invokevirtual 439, 3) := by decide +kernel
theorem dX13_why_53 : decode cX13_why 53 = .ok (.aload_n 0, 1) := by decide +kernel
theorem dX13_why_54 : decode cX13_why 54 = .ok (.iload_n 1, 1) := by decide +kernel
theorem dX13_why_55 : decode cX13_why 55 = .ok (.iload_n 2, 1) := by decide +kernel
theorem dX13_why_56 : decode cX13_why 56 = .ok (.bipush 6, 2) := by decide +kernel
theorem dX13_why_58 : decode cX13_why 58 = .ok (.iconst 0, 1) := by decide +kernel
theorem dX13_why_59 : decode cX13_why 59 = .ok (.invokevirtual 439, 3) := by decide +kernel
theorem dX13_why_62 : decode cX13_why 62 = .ok (.if_icmp .eq 5, 3) := by decide +kernel
theorem dX13_why_65 : decode cX13_why 65 = .ok (.iload_n 3, 1) := by decide +kernel
theorem dX13_why_66 : decode cX13_why 66 = .ok (.ireturn, 1) := by decide +kernel
theorem dX13_why_67 : decode cX13_why 67 = .ok (.iinc 3 1, 3) := by decide +kernel
theorem dX13_why_70 : decode cX13_why 70 = .ok (.goto (-31), 3) := by decide +kernel
theorem dX13_why_73 : decode cX13_why 73 = .ok (.iconst 0, 1) := by decide +kernel
theorem dX13_why_74 : decode cX13_why 74 = .ok (.ireturn, 1) := by decide +kernel
theorem dX13_asks_0 : decode cX13_asks 0 = .ok (.aload_n 0, 1) := by decide +kernel
theorem dX13_asks_1 : decode cX13_asks 1 = .ok (.getfield 195, 3) := by decide +kernel
theorem dX13_asks_4 : decode cX13_asks 4 = .ok (.iconst 0, 1) := by decide +kernel
theorem dX13_asks_5 : decode cX13_asks 5 = .ok (.aload_n 0, 1) := by decide +kernel
theorem dX13_asks_6 : decode cX13_asks 6 = .ok (.getfield 99, 3) := by decide +kernel
theorem dX13_asks_9 : decode cX13_asks 9 = .ok (.iload_n 1, 1) := by decide +kernel
theorem dX13_asks_10 : decode cX13_asks 10 = .ok (.iaload, 1) := by decide +kernel
theorem dX13_asks_11 : decode cX13_asks 11 = .ok (.iastore, 1) := by decide +kernel
theorem dX13_asks_12 : decode cX13_asks 12 = .ok (.aload_n 0, 1) := by decide +kernel
theorem dX13_asks_13 : decode cX13_asks 13 = .ok (.getfield 195, 3) := by decide +kernel
theorem dX13_asks_16 : decode cX13_asks 16 = .ok (.iconst 1, 1) := by decide +kernel
theorem dX13_asks_17 : decode cX13_asks 17 = .ok (.aload_n 0, 1) := by decide +kernel
theorem dX13_asks_18 : decode cX13_asks 18 = .ok (.iload_n 1, 1) := by decide +kernel
theorem dX13_asks_19 : decode cX13_asks 19 = .ok (.invokevirtual 455, 3) := by decide +kernel
theorem dX13_asks_22 : decode cX13_asks 22 = .ok (.iastore, 1) := by decide +kernel
theorem dX13_asks_23 : decode cX13_asks 23 = .ok (.aload_n 0, 1) := by decide +kernel
theorem dX13_asks_24 : decode cX13_asks 24 = .ok (.getfield 195, 3) := by decide +kernel
theorem dX13_asks_27 : decode cX13_asks 27 = .ok (.iconst 2, 1) := by decide +kernel
theorem dX13_asks_28 : decode cX13_asks 28 = .ok (.aload_n 0, 1) := by decide +kernel
theorem dX13_asks_29 : decode cX13_asks 29 = .ok (.iload_n 1, 1) := by decide +kernel
theorem dX13_asks_30 : decode cX13_asks 30 = .ok (.invokevirtual 461, 3) := by decide +kernel
theorem dX13_asks_33 : decode cX13_asks 33 = .ok (.iastore, 1) := by decide +kernel
theorem dX13_asks_34 : decode cX13_asks 34 = .ok (.aload_n 0, 1) := by decide +kernel
theorem dX13_asks_35 : decode cX13_asks 35 = .ok (.getfield 195, 3) := by decide +kernel
theorem dX13_asks_38 : decode cX13_asks 38 = .ok (.iconst 3, 1) := by decide +kernel
theorem dX13_asks_39 : decode cX13_asks 39 = .ok (.iconst 0, 1) := by decide +kernel
theorem dX13_asks_40 : decode cX13_asks 40 = .ok (.iastore, 1) := by decide +kernel
theorem dX13_asks_41 : decode cX13_asks 41 = .ok (.iconst 0, 1) := by decide +kernel
theorem dX13_asks_42 : decode cX13_asks 42 = .ok (.istore_n 3, 1) := by decide +kernel
theorem dX13_asks_43 : decode cX13_asks 43 = .ok (.iload_n 3, 1) := by decide +kernel
theorem dX13_asks_44 : decode cX13_asks 44 = .ok (.aload_n 0, 1) := by decide +kernel
theorem dX13_asks_45 : decode cX13_asks 45 = .ok (.getfield 418, 3) := by decide +kernel
theorem dX13_asks_48 : decode cX13_asks 48 = .ok (.if_icmp .ge 52, 3) := by decide +kernel
theorem dX13_asks_51 : decode cX13_asks 51 = .ok (.aload_n 0, 1) := by decide +kernel
theorem dX13_asks_52 : decode cX13_asks 52 = .ok (.getfield 195, 3) := by decide +kernel
theorem dX13_asks_55 : decode cX13_asks 55 = .ok (.iconst 3, 1) := by decide +kernel
theorem dX13_asks_56 : decode cX13_asks 56 = .ok (.dup2, 1) := by decide +kernel
theorem dX13_asks_57 : decode cX13_asks 57 = .ok (.iaload, 1) := by decide +kernel
theorem dX13_asks_58 : decode cX13_asks 58 = .ok (.aload_n 0, 1) := by decide +kernel
theorem dX13_asks_59 : decode cX13_asks 59 = .ok (.getfield 90, 3) := by decide +kernel
theorem dX13_asks_62 : decode cX13_asks 62 = .ok (.iload_n 3, 1) := by decide +kernel
theorem dX13_asks_63 : decode cX13_asks 63 = .ok (.iaload, 1) := by decide +kernel
theorem dX13_asks_64 : decode cX13_asks 64 = .ok (.iconst 1, 1) := by decide +kernel
theorem dX13_asks_65 : decode cX13_asks 65 = .ok (.if_icmp .ne 26, 3) := by decide +kernel
theorem dX13_asks_68 : decode cX13_asks 68 = .ok (.aload_n 0, 1) := by decide +kernel
theorem dX13_asks_69 : decode cX13_asks 69 = .ok (.getfield 102, 3) := by decide +kernel
theorem dX13_asks_72 : decode cX13_asks 72 = .ok (.iload_n 3, 1) := by decide +kernel
theorem dX13_asks_73 : decode cX13_asks 73 = .ok (.iaload, 1) := by decide +kernel
theorem dX13_asks_74 : decode cX13_asks 74 = .ok (.iload_n 1, 1) := by decide +kernel
theorem dX13_asks_75 : decode cX13_asks 75 = .ok (.if_icmp .ne 16, 3) := by decide +kernel
theorem dX13_asks_78 : decode cX13_asks 78 = .ok (.aload_n 0, 1) := by decide +kernel
theorem dX13_asks_79 : decode cX13_asks 79 = .ok (.getfield 108, 3) := by decide +kernel
theorem dX13_asks_82 : decode cX13_asks 82 = .ok (.iload_n 3, 1) := by decide +kernel
theorem dX13_asks_83 : decode cX13_asks 83 = .ok (.baload, 1) := by decide +kernel
theorem dX13_asks_84 : decode cX13_asks 84 = .ok (.ifCond .ne 7, 3) := by decide +kernel
theorem dX13_asks_87 : decode cX13_asks 87 = .ok (.iconst 1, 1) := by decide +kernel
theorem dX13_asks_88 : decode cX13_asks 88 = .ok (.goto 4, 3) := by decide +kernel
theorem dX13_asks_91 : decode cX13_asks 91 = .ok (.iconst 0, 1) := by decide +kernel
theorem dX13_asks_92 : decode cX13_asks 92 = .ok (.iadd, 1) := by decide +kernel
theorem dX13_asks_93 : decode cX13_asks 93 = .ok (.iastore, 1) := by decide +kernel
theorem dX13_asks_94 : decode cX13_asks 94 = .ok (.iinc 3 1, 3) := by decide +kernel
theorem dX13_asks_97 : decode cX13_asks 97 = .ok (.goto (-54), 3) := by decide +kernel
theorem dX13_asks_100 : decode cX13_asks 100 = .ok (.aload_n 0, 1) := by decide +kernel
theorem dX13_asks_101 : decode cX13_asks 101 = .ok (.getfield 195, 3) := by decide +kernel
theorem dX13_asks_104 : decode cX13_asks 104 = .ok (.iconst 4, 1) := by decide +kernel
theorem dX13_asks_105 : decode cX13_asks 105 = .ok (.aload_n 0, 1) := by decide +kernel
theorem dX13_asks_106 : decode cX13_asks 106 = .ok (.getfield 96, 3) := by decide +kernel
theorem dX13_asks_109 : decode cX13_asks 109 = .ok (.iload_n 1, 1) := by decide +kernel
theorem dX13_asks_110 : decode cX13_asks 110 = .ok (.iaload, 1) := by decide +kernel
theorem dX13_asks_111 : decode cX13_asks 111 = .ok (.iastore, 1) := by decide +kernel
theorem dX13_asks_112 : decode cX13_asks 112 = .ok (.aload_n 0, 1) := by decide +kernel
theorem dX13_asks_113 : decode cX13_asks 113 = .ok (.getfield 195, 3) := by decide +kernel
theorem dX13_asks_116 : decode cX13_asks 116 = .ok (.bipush 7, 2) := by decide +kernel
theorem dX13_asks_118 : decode cX13_asks 118 = .ok (.aload_n 0, 1) := by decide +kernel
theorem dX13_asks_119 : decode cX13_asks 119 = .ok (.iload_n 1, 1) := by decide +kernel
theorem dX13_asks_120 : decode cX13_asks 120 = .ok (.invokevirtual 433, 3) := by decide +kernel
theorem dX13_asks_123 : decode cX13_asks 123 = .ok (.iastore, 1) := by decide +kernel
theorem dX13_asks_124 : decode cX13_asks 124 = .ok (.aload_n 0, 1) := by decide +kernel
theorem dX13_asks_125 : decode cX13_asks 125 = .ok (.getfield 195, 3) := by decide +kernel
theorem dX13_asks_128 : decode cX13_asks 128 = .ok (.iconst 5, 1) := by decide +kernel
theorem dX13_asks_129 : decode cX13_asks 129 = .ok (.iload_n 2, 1) := by decide +kernel
theorem dX13_asks_130 : decode cX13_asks 130 = .ok (.iconst (-1), 1) := by decide +kernel
theorem dX13_asks_131 : decode cX13_asks 131 = .ok (.if_icmp .ne 7, 3) := by decide +kernel
theorem dX13_asks_134 : decode cX13_asks 134 = .ok (.iconst 0, 1) := by decide +kernel
theorem dX13_asks_135 : decode cX13_asks 135 = .ok (.goto 9, 3) := by decide +kernel
theorem dX13_asks_138 : decode cX13_asks 138 = .ok (.aload_n 0, 1) := by decide +kernel
theorem dX13_asks_139 : decode cX13_asks 139 = .ok (.getfield 123, 3) := by decide +kernel
theorem dX13_asks_142 : decode cX13_asks 142 = .ok (.iload_n 2, 1) := by decide +kernel
theorem dX13_asks_143 : decode cX13_asks 143 = .ok (.iaload, 1) := by decide +kernel
theorem dX13_asks_144 : decode cX13_asks 144 = .ok (.iastore, 1) := by decide +kernel
theorem dX13_asks_145 : decode cX13_asks 145 = .ok (.aload_n 0, 1) := by decide +kernel
theorem dX13_asks_146 : decode cX13_asks 146 = .ok (.getfield 195, 3) := by decide +kernel
theorem dX13_asks_149 : decode cX13_asks 149 = .ok (.bipush 6, 2) := by decide +kernel
theorem dX13_asks_151 : decode cX13_asks 151 = .ok (.iload_n 2, 1) := by decide +kernel
theorem dX13_asks_152 : decode cX13_asks 152 = .ok (.iconst (-1), 1) := by decide +kernel
theorem dX13_asks_153 : decode cX13_asks 153 = .ok (.if_icmp .ne 7, 3) := by decide +kernel
theorem dX13_asks_156 : decode cX13_asks 156 = .ok (.iconst 0, 1) := by decide +kernel
theorem dX13_asks_157 : decode cX13_asks 157 = .ok (.goto 18, 3) := by decide +kernel
theorem dX13_asks_160 : decode cX13_asks 160 = .ok (.aload_n 0, 1) := by decide +kernel
theorem dX13_asks_161 : decode cX13_asks 161 = .ok (.getfield 383, 3) := by decide +kernel
theorem dX13_asks_164 : decode cX13_asks 164 = .ok (.aload_n 0, 1) := by decide +kernel
theorem dX13_asks_165 : decode cX13_asks 165 = .ok (.getfield 126, 3) := by decide +kernel
theorem dX13_asks_168 : decode cX13_asks 168 = .ok (.iload_n 2, 1) := by decide +kernel
theorem dX13_asks_169 : decode cX13_asks 169 = .ok (.iaload, 1) := by decide +kernel
theorem dX13_asks_170 : decode cX13_asks 170 = .ok (.isub, 1) := by decide +kernel
theorem dX13_asks_171 : decode cX13_asks 171 = .ok (.sipush 365, 3) := by decide +kernel
theorem dX13_asks_174 : decode cX13_asks 174 = .ok (.idiv, 1) := by decide +kernel
theorem dX13_asks_175 : decode cX13_asks 175 = .ok (.iastore, 1) := by decide +kernel
theorem dX13_asks_176 : decode cX13_asks 176 = .ok (.aload_n 0, 1) := by decide +kernel
theorem dX13_asks_177 : decode cX13_asks 177 = .ok (.getfield 195, 3) := by decide +kernel
theorem dX13_asks_180 : decode cX13_asks 180 = .ok (.bipush 8, 2) := by decide +kernel
theorem dX13_asks_182 : decode cX13_asks 182 = .ok (.iload_n 2, 1) := by decide +kernel
theorem dX13_asks_183 : decode cX13_asks 183 = .ok (.iconst (-1), 1) := by decide +kernel
theorem dX13_asks_184 : decode cX13_asks 184 = .ok (.if_icmp .ne 7, 3) := by decide +kernel
theorem dX13_asks_187 : decode cX13_asks 187 = .ok (.iconst 0, 1) := by decide +kernel
theorem dX13_asks_188 : decode cX13_asks 188 = .ok (.goto 8, 3) := by decide +kernel
theorem dX13_asks_191 : decode cX13_asks 191 = .ok (.aload_n 0, 1) := by decide +kernel
theorem dX13_asks_192 : decode cX13_asks 192 = .ok (.iload_n 2, 1) := by decide +kernel
theorem dX13_asks_193 : decode cX13_asks 193 = .ok (.invokevirtual 464, 3) := by decide +kernel
theorem dX13_asks_196 : decode cX13_asks 196 = .ok (.iastore, 1) := by decide +kernel
theorem dX13_asks_197 : decode cX13_asks 197 = .ok (.return_, 1) := by decide +kernel
theorem dX13_mayBeGiven_0 : decode cX13_mayBeGiven 0 = .ok (.aload_n 0, 1) := by decide +kernel
theorem dX13_mayBeGiven_1 : decode cX13_mayBeGiven 1 = .ok (.iload_n 1, 1) := by decide +kernel
theorem dX13_mayBeGiven_2 : decode cX13_mayBeGiven 2 = .ok (.invokevirtual 467, 3) := by decide +kernel
theorem dX13_mayBeGiven_5 : decode cX13_mayBeGiven 5 = .ok (.ifCond .eq 65, 3) := by decide +kernel
theorem dX13_mayBeGiven_8 : decode cX13_mayBeGiven 8 = .ok (.aload_n 0, 1) := by decide +kernel
theorem dX13_mayBeGiven_9 : decode cX13_mayBeGiven 9 = .ok (.getfield 108, 3) := by decide +kernel
theorem dX13_mayBeGiven_12 : decode cX13_mayBeGiven 12 = .ok (.iload_n 1, 1) := by decide +kernel
theorem dX13_mayBeGiven_13 : decode cX13_mayBeGiven 13 = .ok (.baload, 1) := by decide +kernel
theorem dX13_mayBeGiven_14 : decode cX13_mayBeGiven 14 = .ok (.ifCond .ne 56, 3) := by decide +kernel
theorem dX13_mayBeGiven_17 : decode cX13_mayBeGiven 17 = .ok (.aload_n 0, 1) := by decide +kernel
theorem dX13_mayBeGiven_18 : decode cX13_mayBeGiven 18 = .ok (.getfield 114, 3) := by decide +kernel
theorem dX13_mayBeGiven_21 : decode cX13_mayBeGiven 21 = .ok (.iload_n 1, 1) := by decide +kernel
theorem dX13_mayBeGiven_22 : decode cX13_mayBeGiven 22 = .ok (.iaload, 1) := by decide +kernel
theorem dX13_mayBeGiven_23 : decode cX13_mayBeGiven 23 = .ok (.iconst (-1), 1) := by decide +kernel
theorem dX13_mayBeGiven_24 : decode cX13_mayBeGiven 24 = .ok (.if_icmp .ne 46, 3) := by decide +kernel
theorem dX13_mayBeGiven_27 : decode cX13_mayBeGiven 27 = .ok (.aload_n 0, 1) := by decide +kernel
theorem dX13_mayBeGiven_28 : decode cX13_mayBeGiven 28 = .ok (.iload_n 1, 1) := by decide +kernel
theorem dX13_mayBeGiven_29 : decode cX13_mayBeGiven 29 = .ok (.invokevirtual 458, 3) := by decide +kernel
theorem dX13_mayBeGiven_32 : decode cX13_mayBeGiven 32 = .ok (.ifCond .ne 38, 3) := by decide +kernel
theorem dX13_mayBeGiven_35 : decode cX13_mayBeGiven 35 = .ok (.aload_n 0, 1) := by decide +kernel
theorem dX13_mayBeGiven_36 : decode cX13_mayBeGiven 36 = .ok (.iload_n 2, 1) := by decide +kernel
theorem dX13_mayBeGiven_37 : decode cX13_mayBeGiven 37 = .ok (.invokevirtual 449, 3) := by decide +kernel
theorem dX13_mayBeGiven_40 : decode cX13_mayBeGiven 40 = .ok (.ifCond .eq 30, 3) := by decide +kernel
theorem dX13_mayBeGiven_43 : decode cX13_mayBeGiven 43 = .ok (.aload_n 0, 1) := by decide +kernel
theorem dX13_mayBeGiven_44 : decode cX13_mayBeGiven 44 = .ok (.getfield 129, 3) := by decide +kernel
theorem dX13_mayBeGiven_47 : decode cX13_mayBeGiven 47 = .ok (.iload_n 2, 1) := by decide +kernel
theorem dX13_mayBeGiven_48 : decode cX13_mayBeGiven 48 = .ok (.baload, 1) := by decide +kernel
theorem dX13_mayBeGiven_49 : decode cX13_mayBeGiven 49 = .ok (.ifCond .ne 21, 3) := by decide +kernel
theorem dX13_mayBeGiven_52 : decode cX13_mayBeGiven 52 = .ok (.aload_n 0, 1) := by decide +kernel
theorem dX13_mayBeGiven_53 : decode cX13_mayBeGiven 53 = .ok (.getfield 120, 3) := by decide +kernel
theorem dX13_mayBeGiven_56 : decode cX13_mayBeGiven 56 = .ok (.iload_n 2, 1) := by decide +kernel
theorem dX13_mayBeGiven_57 : decode cX13_mayBeGiven 57 = .ok (.iaload, 1) := by decide +kernel
theorem dX13_mayBeGiven_58 : decode cX13_mayBeGiven 58 = .ok (.aload_n 0, 1) := by decide +kernel
theorem dX13_mayBeGiven_59 : decode cX13_mayBeGiven 59 = .ok (.getfield 96, 3) := by decide +kernel
theorem dX13_mayBeGiven_62 : decode cX13_mayBeGiven 62 = .ok (.iload_n 1, 1) := by decide +kernel
theorem dX13_mayBeGiven_63 : decode cX13_mayBeGiven 63 = .ok (.iaload, 1) := by decide +kernel
theorem dX13_mayBeGiven_64 : decode cX13_mayBeGiven 64 = .ok (.ishr, 1) := by decide +kernel
theorem dX13_mayBeGiven_65 : decode cX13_mayBeGiven 65 = .ok (.iconst 1, 1) := by decide +kernel
theorem dX13_mayBeGiven_66 : decode cX13_mayBeGiven 66 = .ok (.iand, 1) := by decide +kernel
theorem dX13_mayBeGiven_67 : decode cX13_mayBeGiven 67 = .ok (.ifCond .ne 5, 3) := by decide +kernel
theorem dX13_mayBeGiven_70 : decode cX13_mayBeGiven 70 = .ok (.iconst 0, 1) := by decide +kernel
theorem dX13_mayBeGiven_71 : decode cX13_mayBeGiven 71 = .ok (.ireturn, 1) := by decide +kernel
theorem dX13_mayBeGiven_72 : decode cX13_mayBeGiven 72 = .ok (.iconst 0, 1) := by decide +kernel
theorem dX13_mayBeGiven_73 : decode cX13_mayBeGiven 73 = .ok (.istore_n 3, 1) := by decide +kernel
theorem dX13_mayBeGiven_74 : decode cX13_mayBeGiven 74 = .ok (.iload_n 3, 1) := by decide +kernel
theorem dX13_mayBeGiven_75 : decode cX13_mayBeGiven 75 = .ok (.aload_n 0, 1) := by decide +kernel
theorem dX13_mayBeGiven_76 : decode cX13_mayBeGiven 76 = .ok (.getfield 452, 3) := by decide +kernel
theorem dX13_mayBeGiven_79 : decode cX13_mayBeGiven 79 = .ok (.if_icmp .ge 40, 3) := by decide +kernel
theorem dX13_mayBeGiven_82 : decode cX13_mayBeGiven 82 = .ok (.aload_n 0, 1) := by decide +kernel
theorem dX13_mayBeGiven_83 : decode cX13_mayBeGiven 83 = .ok (.getfield 135, 3) := by decide +kernel
theorem dX13_mayBeGiven_86 : decode cX13_mayBeGiven 86 = .ok (.iload_n 3, 1) := by decide +kernel
theorem dX13_mayBeGiven_87 : decode cX13_mayBeGiven 87 = .ok (.iaload, 1) := by decide +kernel
theorem dX13_mayBeGiven_88 : decode cX13_mayBeGiven 88 = .ok (.iload_n 1, 1) := by decide +kernel
theorem dX13_mayBeGiven_89 : decode cX13_mayBeGiven 89 = .ok (.if_icmp .ne 24, 3) := by decide +kernel
theorem dX13_mayBeGiven_92 : decode cX13_mayBeGiven 92 = .ok (.aload_n 0, 1) := by decide +kernel
theorem dX13_mayBeGiven_93 : decode cX13_mayBeGiven 93 = .ok (.getfield 132, 3) := by decide +kernel
theorem dX13_mayBeGiven_96 : decode cX13_mayBeGiven 96 = .ok (.bipush 12, 2) := by decide +kernel
theorem dX13_mayBeGiven_98 : decode cX13_mayBeGiven 98 = .ok (.iload_n 2, 1) := by decide +kernel
theorem dX13_mayBeGiven_99 : decode cX13_mayBeGiven 99 = .ok (.imul, 1) := by decide +kernel
theorem dX13_mayBeGiven_100 : decode cX13_mayBeGiven 100 = .ok (.aload_n 0, 1) := by decide +kernel
theorem dX13_mayBeGiven_101 : decode cX13_mayBeGiven 101 = .ok (.getfield 138, 3) := by decide +kernel
theorem dX13_mayBeGiven_104 : decode cX13_mayBeGiven 104 = .ok (.iload_n 3, 1) := by decide +kernel
theorem dX13_mayBeGiven_105 : decode cX13_mayBeGiven 105 = .ok (.iaload, 1) := by decide +kernel
theorem dX13_mayBeGiven_106 : decode cX13_mayBeGiven 106 = .ok (.iadd, 1) := by decide +kernel
theorem dX13_mayBeGiven_107 : decode cX13_mayBeGiven 107 = .ok (.baload, 1) := by decide +kernel
theorem dX13_mayBeGiven_108 : decode cX13_mayBeGiven 108 = .ok (.ifCond .eq 5, 3) := by decide +kernel
theorem dX13_mayBeGiven_111 : decode cX13_mayBeGiven 111 = .ok (.iconst 0, 1) := by decide +kernel
theorem dX13_mayBeGiven_112 : decode cX13_mayBeGiven 112 = .ok (.ireturn, 1) := by decide +kernel
theorem dX13_mayBeGiven_113 : decode cX13_mayBeGiven 113 = .ok (.iinc 3 1, 3) := by decide +kernel
theorem dX13_mayBeGiven_116 : decode cX13_mayBeGiven 116 = .ok (.goto (-42), 3) := by decide +kernel
theorem dX13_mayBeGiven_119 : decode cX13_mayBeGiven 119 = .ok (.aload_n 0, 1) := by decide +kernel
theorem dX13_mayBeGiven_120 : decode cX13_mayBeGiven 120 = .ok (.iload_n 1, 1) := by decide +kernel
theorem dX13_mayBeGiven_121 : decode cX13_mayBeGiven 121 = .ok (.iload_n 2, 1) := by decide +kernel
theorem dX13_mayBeGiven_122 : decode cX13_mayBeGiven 122 = .ok (.invokevirtual 470, 3) := by decide +kernel
theorem dX13_mayBeGiven_125 : decode cX13_mayBeGiven 125 = .ok (.aload_n 0, 1) := by decide +kernel
theorem dX13_mayBeGiven_126 : decode cX13_mayBeGiven 126 = .ok (.iconst 2, 1) := by decide +kernel
theorem dX13_mayBeGiven_127 : decode cX13_mayBeGiven 127 = .ok (.aload_n 0, 1) := by decide +kernel
theorem dX13_mayBeGiven_128 : decode cX13_mayBeGiven 128 = .ok (.iload_n 1, 1) := by decide +kernel
theorem dX13_mayBeGiven_129 : decode cX13_mayBeGiven 129 = .ok (.invokevirtual 433, 3) := by decide +kernel
theorem dX13_mayBeGiven_132 : decode cX13_mayBeGiven 132 = .ok (.aload_n 0, 1) := by decide +kernel
theorem dX13_mayBeGiven_133 : decode cX13_mayBeGiven 133 = .ok (.getfield 383, 3) := by decide +kernel
theorem dX13_mayBeGiven_136 : decode cX13_mayBeGiven 136 = .ok (.invokevirtual 404, 3) := by decide +kernel
theorem dX13_mayBeGiven_139 : decode cX13_mayBeGiven 139 = .ok (.ifCond .eq 7, 3) := by decide +kernel
theorem dX13_mayBeGiven_142 : decode cX13_mayBeGiven 142 = .ok (.iconst 1, 1) := by decide +kernel
theorem dX13_mayBeGiven_143 : decode cX13_mayBeGiven 143 = .ok (.goto 4, 3) := by decide +kernel
theorem dX13_mayBeGiven_146 : decode cX13_mayBeGiven 146 = .ok (.iconst 0, 1) := by decide +kernel
theorem dX13_mayBeGiven_147 : decode cX13_mayBeGiven 147 = .ok (.ireturn, 1) := by decide +kernel
theorem dX13_give_0 : decode cX13_give 0 = .ok (.aload_n 0, 1) := by decide +kernel
theorem dX13_give_1 : decode cX13_give 1 = .ok (.iload_n 1, 1) := by decide +kernel
theorem dX13_give_2 : decode cX13_give 2 = .ok (.iload_n 2, 1) := by decide +kernel
theorem dX13_give_3 : decode cX13_give 3 = .ok (.invokevirtual 473, 3) := by decide +kernel
theorem dX13_give_6 : decode cX13_give 6 = .ok (.ifCond .ne 5, 3) := by decide +kernel
theorem dX13_give_9 : decode cX13_give 9 = .ok (.iconst 0, 1) := by decide +kernel
theorem dX13_give_10 : decode cX13_give 10 = .ok (.ireturn, 1) := by decide +kernel
theorem dX13_give_11 : decode cX13_give 11 = .ok (.aload_n 0, 1) := by decide +kernel
theorem dX13_give_12 : decode cX13_give 12 = .ok (.getfield 105, 3) := by decide +kernel
theorem dX13_give_15 : decode cX13_give 15 = .ok (.iload_n 1, 1) := by decide +kernel
theorem dX13_give_16 : decode cX13_give 16 = .ok (.iload_n 2, 1) := by decide +kernel
theorem dX13_give_17 : decode cX13_give 17 = .ok (.iastore, 1) := by decide +kernel
theorem dX13_give_18 : decode cX13_give 18 = .ok (.iconst 1, 1) := by decide +kernel
theorem dX13_give_19 : decode cX13_give 19 = .ok (.ireturn, 1) := by decide +kernel
theorem dX13_line_0 : decode cX13_line 0 = .ok (.aload_n 0, 1) := by decide +kernel
theorem dX13_line_1 : decode cX13_line 1 = .ok (.iload_n 1, 1) := by decide +kernel
theorem dX13_line_2 : decode cX13_line 2 = .ok (.invokevirtual 467, 3) := by decide +kernel
theorem dX13_line_5 : decode cX13_line 5 = .ok (.ifCond .eq 74, 3) := by decide +kernel
theorem dX13_line_8 : decode cX13_line 8 = .ok (.aload_n 0, 1) := by decide +kernel
theorem dX13_line_9 : decode cX13_line 9 = .ok (.getfield 105, 3) := by decide +kernel
theorem dX13_line_12 : decode cX13_line 12 = .ok (.iload_n 1, 1) := by decide +kernel
theorem dX13_line_13 : decode cX13_line 13 = .ok (.iaload, 1) := by decide +kernel
theorem dX13_line_14 : decode cX13_line 14 = .ok (.iconst (-1), 1) := by decide +kernel
theorem dX13_line_15 : decode cX13_line 15 = .ok (.if_icmp .eq 64, 3) := by decide +kernel
theorem dX13_line_18 : decode cX13_line 18 = .ok (.aload_n 0, 1) := by decide +kernel
theorem dX13_line_19 : decode cX13_line 19 = .ok (.getfield 129, 3) := by decide +kernel
theorem dX13_line_22 : decode cX13_line 22 = .ok (.aload_n 0, 1) := by decide +kernel
theorem dX13_line_23 : decode cX13_line 23 = .ok (.getfield 105, 3) := by decide +kernel
theorem dX13_line_26 : decode cX13_line 26 = .ok (.iload_n 1, 1) := by decide +kernel
theorem dX13_line_27 : decode cX13_line 27 = .ok (.iaload, 1) := by decide +kernel
theorem dX13_line_28 : decode cX13_line 28 = .ok (.baload, 1) := by decide +kernel
theorem dX13_line_29 : decode cX13_line 29 = .ok (.ifCond .ne 50, 3) := by decide +kernel
theorem dX13_line_32 : decode cX13_line 32 = .ok (.aload_n 0, 1) := by decide +kernel
theorem dX13_line_33 : decode cX13_line 33 = .ok (.getfield 108, 3) := by decide +kernel
theorem dX13_line_36 : decode cX13_line 36 = .ok (.iload_n 1, 1) := by decide +kernel
theorem dX13_line_37 : decode cX13_line 37 = .ok (.baload, 1) := by decide +kernel
theorem dX13_line_38 : decode cX13_line 38 = .ok (.ifCond .ne 41, 3) := by decide +kernel
theorem dX13_line_41 : decode cX13_line 41 = .ok (.aload_n 0, 1) := by decide +kernel
theorem dX13_line_42 : decode cX13_line 42 = .ok (.iload_n 1, 1) := by decide +kernel
theorem dX13_line_43 : decode cX13_line 43 = .ok (.invokevirtual 458, 3) := by decide +kernel
theorem dX13_line_46 : decode cX13_line 46 = .ok (.ifCond .ne 33, 3) := by decide +kernel
theorem dX13_line_49 : decode cX13_line 49 = .ok (.aload_n 0, 1) := by decide +kernel
theorem dX13_line_50 : decode cX13_line 50 = .ok (.iload_n 1, 1) := by decide +kernel
theorem dX13_line_51 : decode cX13_line 51 = .ok (.invokevirtual 433, 3) := by decide +kernel
theorem dX13_line_54 : decode cX13_line 54 = .ok (.bipush 6, 2) := by decide +kernel
theorem dX13_line_56 : decode cX13_line 56 = .ok (.if_icmp .eq 23, 3) := by decide +kernel
theorem dX13_line_59 : decode cX13_line 59 = .ok (.iload_n 3, 1) := by decide +kernel
theorem dX13_line_60 : decode cX13_line 60 = .ok (.iconst 0, 1) := by decide +kernel
theorem dX13_line_61 : decode cX13_line 61 = .ok (.bipush 30, 2) := by decide +kernel
theorem dX13_line_63 : decode cX13_line 63 = .ok (.invokestatic 256, 3) := by decide +kernel
theorem dX13_line_66 : decode cX13_line 66 = .ok (.ifCond .eq 13, 3) := by decide +kernel
theorem dX13_line_69 : decode cX13_line 69 = .ok (.aload_n 0, 1) := by decide +kernel
theorem dX13_line_70 : decode cX13_line 70 = .ok (.getfield 452, 3) := by decide +kernel
theorem dX13_line_73 : decode cX13_line 73 = .ok (.sipush 300, 3) := by decide +kernel
theorem dX13_line_76 : decode cX13_line 76 = .ok (.if_icmp .ne 5, 3) := by decide +kernel
theorem dX13_line_79 : decode cX13_line 79 = .ok (.iconst (-1), 1) := by decide +kernel
theorem dX13_line_80 : decode cX13_line 80 = .ok (.ireturn, 1) := by decide +kernel
theorem dX13_line_81 : decode cX13_line 81 = .ok (.iload_n 2, 1) := by decide +kernel
theorem dX13_line_82 : decode cX13_line 82 = .ok (.iconst 0, 1) := by decide +kernel
theorem dX13_line_83 : decode cX13_line 83 = .ok (.bipush 39, 2) := by decide +kernel
theorem dX13_line_85 : decode cX13_line 85 = .ok (.invokestatic 256, 3) := by decide +kernel
theorem dX13_line_88 : decode cX13_line 88 = .ok (.ifCond .eq 20, 3) := by decide +kernel
theorem dX13_line_91 : decode cX13_line 91 = .ok (.aload_n 0, 1) := by decide +kernel
theorem dX13_line_92 : decode cX13_line 92 = .ok (.iload_n 2, 1) := by decide +kernel
theorem dX13_line_93 : decode cX13_line 93 = .ok (.aload_n 0, 1) := by decide +kernel
theorem dX13_line_94 : decode cX13_line 94 = .ok (.getfield 383, 3) := by decide +kernel
theorem dX13_line_97 : decode cX13_line 97 = .ok (.invokevirtual 482, 3) := by decide +kernel
theorem dX13_line_100 : decode cX13_line 100 = .ok (.iconst (-1), 1) := by decide +kernel
theorem dX13_line_101 : decode cX13_line 101 = .ok (.if_icmp .eq 7, 3) := by decide +kernel
theorem dX13_line_104 : decode cX13_line 104 = .ok (.iconst 1, 1) := by decide +kernel
theorem dX13_line_105 : decode cX13_line 105 = .ok (.goto 4, 3) := by decide +kernel
theorem dX13_line_108 : decode cX13_line 108 = .ok (.iconst 0, 1) := by decide +kernel
theorem dX13_line_109 : decode cX13_line 109 = .ok (.istore 4, 2) := by decide +kernel
theorem dX13_line_111 : decode cX13_line 111 = .ok (.iload_n 2, 1) := by decide +kernel
theorem dX13_line_112 : decode cX13_line 112 = .ok (.bipush 100, 2) := by decide +kernel
theorem dX13_line_114 : decode cX13_line 114 = .ok (.bipush 99, 2) := by decide +kernel
theorem dX13_line_116 : decode cX13_line 116 = .ok (.aload_n 0, 1) := by decide +kernel
theorem dX13_line_117 : decode cX13_line 117 = .ok (.getfield 452, 3) := by decide +kernel
theorem dX13_line_120 : decode cX13_line 120 = .ok (.iadd, 1) := by decide +kernel
theorem dX13_line_121 : decode cX13_line 121 = .ok (.invokestatic 256, 3) := by decide +kernel
theorem dX13_line_124 : decode cX13_line 124 = .ok (.istore 5, 2) := by decide +kernel
theorem dX13_line_126 : decode cX13_line 126 = .ok (.iload 4, 2) := by decide +kernel
theorem dX13_line_128 : decode cX13_line 128 = .ok (.ifCond .ne 15, 3) := by decide +kernel
theorem dX13_line_131 : decode cX13_line 131 = .ok (.iload 5, 2) := by decide +kernel
theorem dX13_line_133 : decode cX13_line 133 = .ok (.ifCond .ne 10, 3) := by decide +kernel
theorem dX13_line_136 : decode cX13_line 136 = .ok (.iload_n 2, 1) := by decide +kernel
theorem dX13_line_137 : decode cX13_line 137 = .ok (.iconst (-1), 1) := by decide +kernel
theorem dX13_line_138 : decode cX13_line 138 = .ok (.if_icmp .eq 5, 3) := by decide +kernel
theorem dX13_line_141 : decode cX13_line 141 = .ok (.iconst (-1), 1) := by decide +kernel
theorem dX13_line_142 : decode cX13_line 142 = .ok (.ireturn, 1) := by decide +kernel
theorem dX13_line_143 : decode cX13_line 143 = .ok (.aload_n 0, 1) := by decide +kernel
theorem dX13_line_144 : decode cX13_line 144 = .ok (.iload_n 1, 1) := by decide +kernel
theorem dX13_line_145 : decode cX13_line 145 = .ok (.aload_n 0, 1) := by decide +kernel
theorem dX13_line_146 : decode cX13_line 146 = .ok (.getfield 105, 3) := by decide +kernel
theorem dX13_line_149 : decode cX13_line 149 = .ok (.iload_n 1, 1) := by decide +kernel
theorem dX13_line_150 : decode cX13_line 150 = .ok (.iaload, 1) := by decide +kernel
theorem dX13_line_151 : decode cX13_line 151 = .ok (.invokevirtual 470, 3) := by decide +kernel
theorem dX13_line_154 : decode cX13_line 154 = .ok (.aload_n 0, 1) := by decide +kernel
theorem dX13_line_155 : decode cX13_line 155 = .ok (.bipush 11, 2) := by decide +kernel
theorem dX13_line_157 : decode cX13_line 157 = .ok (.aload_n 0, 1) := by decide +kernel
theorem dX13_line_158 : decode cX13_line 158 = .ok (.getfield 93, 3) := by decide +kernel
theorem dX13_line_161 : decode cX13_line 161 = .ok (.iload_n 1, 1) := by decide +kernel
theorem dX13_line_162 : decode cX13_line 162 = .ok (.iaload, 1) := by decide +kernel
theorem dX13_line_163 : decode cX13_line 163 = .ok (.iadd, 1) := by decide +kernel
theorem dX13_line_164 : decode cX13_line 164 = .ok (.aload_n 0, 1) := by decide +kernel
theorem dX13_line_165 : decode cX13_line 165 = .ok (.iload_n 1, 1) := by decide +kernel
theorem dX13_line_166 : decode cX13_line 166 = .ok (.invokevirtual 433, 3) := by decide +kernel
theorem dX13_line_169 : decode cX13_line 169 = .ok (.aload_n 0, 1) := by decide +kernel
theorem dX13_line_170 : decode cX13_line 170 = .ok (.getfield 383, 3) := by decide +kernel
theorem dX13_line_173 : decode cX13_line 173 = .ok (.invokevirtual 404, 3) := by decide +kernel
theorem dX13_line_176 : decode cX13_line 176 = .ok (.istore 6, 2) := by decide +kernel
theorem dX13_line_178 : decode cX13_line 178 = .ok (.aload_n 0, 1) := by decide +kernel
theorem dX13_line_179 : decode cX13_line 179 = .ok (.getfield 135, 3) := by decide +kernel
theorem dX13_line_182 : decode cX13_line 182 = .ok (.aload_n 0, 1) := by decide +kernel
theorem dX13_line_183 : decode cX13_line 183 = .ok (.getfield 452, 3) := by decide +kernel
theorem dX13_line_186 : decode cX13_line 186 = .ok (.iload_n 1, 1) := by decide +kernel
theorem dX13_line_187 : decode cX13_line 187 = .ok (.iastore, 1) := by decide +kernel
theorem dX13_line_188 : decode cX13_line 188 = .ok (.aload_n 0, 1) := by decide +kernel
theorem dX13_line_189 : decode cX13_line 189 = .ok (.getfield 138, 3) := by decide +kernel
theorem dX13_line_192 : decode cX13_line 192 = .ok (.aload_n 0, 1) := by decide +kernel
theorem dX13_line_193 : decode cX13_line 193 = .ok (.getfield 452, 3) := by decide +kernel
theorem dX13_line_196 : decode cX13_line 196 = .ok (.aload_n 0, 1) := by decide +kernel
theorem dX13_line_197 : decode cX13_line 197 = .ok (.getfield 105, 3) := by decide +kernel
theorem dX13_line_200 : decode cX13_line 200 = .ok (.iload_n 1, 1) := by decide +kernel
theorem dX13_line_201 : decode cX13_line 201 = .ok (.iaload, 1) := by decide +kernel
theorem dX13_line_202 : decode cX13_line 202 = .ok (.iastore, 1) := by decide +kernel
theorem dX13_line_203 : decode cX13_line 203 = .ok (.aload_n 0, 1) := by decide +kernel
theorem dX13_line_204 : decode cX13_line 204 = .ok (.getfield 141, 3) := by decide +kernel
theorem dX13_line_207 : decode cX13_line 207 = .ok (.aload_n 0, 1) := by decide +kernel
theorem dX13_line_208 : decode cX13_line 208 = .ok (.getfield 452, 3) := by decide +kernel
theorem dX13_line_211 : decode cX13_line 211 = .ok (.iload 4, 2) := by decide +kernel
theorem dX13_line_213 : decode cX13_line 213 = .ok (.ifCond .eq 7, 3) := by decide +kernel
theorem dX13_line_216 : decode cX13_line 216 = .ok (.iload_n 2, 1) := by decide +kernel
theorem dX13_line_217 : decode cX13_line 217 = .ok (.goto 4, 3) := by decide +kernel
theorem dX13_line_220 : decode cX13_line 220 = .ok (.iconst (-1), 1) := by decide +kernel
theorem dX13_line_221 : decode cX13_line 221 = .ok (.iastore, 1) := by decide +kernel
theorem dX13_line_222 : decode cX13_line 222 = .ok (.aload_n 0, 1) := by decide +kernel
theorem dX13_line_223 : decode cX13_line 223 = .ok (.getfield 144, 3) := by decide +kernel
theorem dX13_line_226 : decode cX13_line 226 = .ok (.aload_n 0, 1) := by decide +kernel
theorem dX13_line_227 : decode cX13_line 227 = .ok (.getfield 452, 3) := by decide +kernel
theorem dX13_line_230 : decode cX13_line 230 = .ok (.iload 5, 2) := by decide +kernel
theorem dX13_line_232 : decode cX13_line 232 = .ok (.ifCond .eq 10, 3) := by decide +kernel
theorem dX13_line_235 : decode cX13_line 235 = .ok (.iload_n 2, 1) := by decide +kernel
theorem dX13_line_236 : decode cX13_line 236 = .ok (.bipush 100, 2) := by decide +kernel
theorem dX13_line_238 : decode cX13_line 238 = .ok (.isub, 1) := by decide +kernel
theorem dX13_line_239 : decode cX13_line 239 = .ok (.goto 4, 3) := by decide +kernel
theorem dX13_line_242 : decode cX13_line 242 = .ok (.iconst (-1), 1) := by decide +kernel
theorem dX13_line_243 : decode cX13_line 243 = .ok (.iastore, 1) := by decide +kernel
theorem dX13_line_244 : decode cX13_line 244 = .ok (.aload_n 0, 1) := by decide +kernel
theorem dX13_line_245 : decode cX13_line 245 = .ok (.getfield 147, 3) := by decide +kernel
theorem dX13_line_248 : decode cX13_line 248 = .ok (.aload_n 0, 1) := by decide +kernel
theorem dX13_line_249 : decode cX13_line 249 = .ok (.getfield 452, 3) := by decide +kernel
theorem dX13_line_252 : decode cX13_line 252 = .ok (.iload 4, 2) := by decide +kernel
theorem dX13_line_254 : decode cX13_line 254 = .ok (.ifCond .eq 15, 3) := by decide +kernel
theorem dX13_line_257 : decode cX13_line 257 = .ok (.aload_n 0, 1) := by decide +kernel
theorem dX13_line_258 : decode cX13_line 258 = .ok (.iload_n 2, 1) := by decide +kernel
theorem dX13_line_259 : decode cX13_line 259 = .ok (.aload_n 0, 1) := by decide +kernel
theorem dX13_line_260 : decode cX13_line 260 = .ok (.getfield 383, 3) := by decide +kernel
theorem dX13_line_263 : decode cX13_line 263 = .ok (.invokevirtual 482, 3) := by decide +kernel
theorem dX13_line_266 : decode cX13_line 266 = .ok (.goto 4, 3) := by decide +kernel
theorem dX13_line_269 : decode cX13_line 269 = .ok (.iconst (-1), 1) := by decide +kernel
theorem dX13_line_270 : decode cX13_line 270 = .ok (.iastore, 1) := by decide +kernel
theorem dX13_line_271 : decode cX13_line 271 = .ok (.aload_n 0, 1) := by decide +kernel
theorem dX13_line_272 : decode cX13_line 272 = .ok (.getfield 150, 3) := by decide +kernel
theorem dX13_line_275 : decode cX13_line 275 = .ok (.aload_n 0, 1) := by decide +kernel
theorem dX13_line_276 : decode cX13_line 276 = .ok (.getfield 452, 3) := by decide +kernel
theorem dX13_line_279 : decode cX13_line 279 = .ok (.iload_n 3, 1) := by decide +kernel
theorem dX13_line_280 : decode cX13_line 280 = .ok (.iastore, 1) := by decide +kernel
theorem dX13_line_281 : decode cX13_line 281 = .ok (.aload_n 0, 1) := by decide +kernel
theorem dX13_line_282 : decode cX13_line 282 = .ok (.getfield 153, 3) := by decide +kernel
theorem dX13_line_285 : decode cX13_line 285 = .ok (.aload_n 0, 1) := by decide +kernel
theorem dX13_line_286 : decode cX13_line 286 = .ok (.getfield 452, 3) := by decide +kernel
theorem dX13_line_289 : decode cX13_line 289 = .ok (.iload 6, 2) := by decide +kernel
theorem dX13_line_291 : decode cX13_line 291 = .ok (.ifCond .ge 7, 3) := by decide +kernel
theorem dX13_line_294 : decode cX13_line 294 = .ok (.iconst 0, 1) := by decide +kernel
theorem dX13_line_295 : decode cX13_line 295 = .ok (.goto 5, 3) := by decide +kernel
theorem dX13_line_298 : decode cX13_line 298 = .ok (.iload 6, 2) := by decide +kernel
theorem dX13_line_300 : decode cX13_line 300 = .ok (.iastore, 1) := by decide +kernel
theorem dX13_line_301 : decode cX13_line 301 = .ok (.aload_n 0, 1) := by decide +kernel
theorem dX13_line_302 : decode cX13_line 302 = .ok (.getfield 156, 3) := by decide +kernel
theorem dX13_line_305 : decode cX13_line 305 = .ok (.aload_n 0, 1) := by decide +kernel
theorem dX13_line_306 : decode cX13_line 306 = .ok (.getfield 452, 3) := by decide +kernel
theorem dX13_line_309 : decode cX13_line 309 = .ok (.iconst (-1), 1) := by decide +kernel
theorem dX13_line_310 : decode cX13_line 310 = .ok (.iastore, 1) := by decide +kernel
theorem dX13_line_311 : decode cX13_line 311 = .ok (.aload_n 0, 1) := by decide +kernel
theorem dX13_line_312 : decode cX13_line 312 = .ok (.dup, 1) := by decide +kernel
theorem dX13_line_313 : decode cX13_line 313 = .ok (.getfield 452, 3) := by decide +kernel
theorem dX13_line_316 : decode cX13_line 316 = .ok (.iconst 1, 1) := by decide +kernel
theorem dX13_line_317 : decode cX13_line 317 = .ok (.iadd, 1) := by decide +kernel
theorem dX13_line_318 : decode cX13_line 318 = .ok (.putfield 452, 3) := by decide +kernel
theorem dX13_line_321 : decode cX13_line 321 = .ok (.aload_n 0, 1) := by decide +kernel
theorem dX13_line_322 : decode cX13_line 322 = .ok (.getfield 452, 3) := by decide +kernel
theorem dX13_line_325 : decode cX13_line 325 = .ok (.iconst 1, 1) := by decide +kernel
theorem dX13_line_326 : decode cX13_line 326 = .ok (.isub, 1) := by decide +kernel
theorem dX13_line_327 : decode cX13_line 327 = .ok (.ireturn, 1) := by decide +kernel
theorem dX13_takers_0 : decode cX13_takers 0 = .ok (.aload_n 0, 1) := by decide +kernel
theorem dX13_takers_1 : decode cX13_takers 1 = .ok (.iload_n 1, 1) := by decide +kernel
theorem dX13_takers_2 : decode cX13_takers 2 = .ok (.invokevirtual 421, 3) := by decide +kernel
theorem dX13_takers_5 : decode cX13_takers 5 = .ok (.ifCond .eq 11, 3) := by decide +kernel
theorem dX13_takers_8 : decode cX13_takers 8 = .ok (.aload_n 0, 1) := by decide +kernel
theorem dX13_takers_9 : decode cX13_takers 9 = .ok (.iload_n 1, 1) := by decide +kernel
theorem dX13_takers_10 : decode cX13_takers 10 = .ok (.invokevirtual 485, 3) := by decide +kernel
theorem dX13_takers_13 : decode cX13_takers 13 = .ok (.ifCond .ne 5, 3) := by decide +kernel
theorem dX13_takers_16 : decode cX13_takers 16 = .ok (.iconst (-1), 1) := by decide +kernel
theorem dX13_takers_17 : decode cX13_takers 17 = .ok (.ireturn, 1) := by decide +kernel
theorem dX13_takers_18 : decode cX13_takers 18 = .ok (.iconst 0, 1) := by decide +kernel
theorem dX13_takers_19 : decode cX13_takers 19 = .ok (.istore_n 2, 1) := by decide +kernel
theorem dX13_takers_20 : decode cX13_takers 20 = .ok (.iconst 0, 1) := by decide +kernel
theorem dX13_takers_21 : decode cX13_takers 21 = .ok (.istore_n 3, 1) := by decide +kernel
theorem dX13_takers_22 : decode cX13_takers 22 = .ok (.iload_n 3, 1) := by decide +kernel
theorem dX13_takers_23 : decode cX13_takers 23 = .ok (.aload_n 0, 1) := by decide +kernel
theorem dX13_takers_24 : decode cX13_takers 24 = .ok (.getfield 445, 3) := by decide +kernel
theorem dX13_takers_27 : decode cX13_takers 27 = .ok (.if_icmp .ge 28, 3) := by decide +kernel
theorem dX13_takers_30 : decode cX13_takers 30 = .ok (.iload_n 2, 1) := by decide +kernel
theorem dX13_takers_31 : decode cX13_takers 31 = .ok (.aload_n 0, 1) := by decide +kernel
theorem dX13_takers_32 : decode cX13_takers 32 = .ok (.iload_n 1, 1) := by decide +kernel
theorem dX13_takers_33 : decode cX13_takers 33 = .ok (.iload_n 3, 1) := by decide +kernel
theorem dX13_takers_34 : decode cX13_takers 34 = .ok (.invokevirtual 473, 3) := by decide +kernel
theorem dX13_takers_37 : decode cX13_takers 37 = .ok (.ifCond .eq 9, 3) := by decide +kernel
theorem dX13_takers_40 : decode cX13_takers 40 = .ok (.iconst 1, 1) := by decide +kernel
theorem dX13_takers_41 : decode cX13_takers 41 = .ok (.iload_n 3, 1) := by decide +kernel
theorem dX13_takers_42 : decode cX13_takers 42 = .ok (.ishl, 1) := by decide +kernel
theorem dX13_takers_43 : decode cX13_takers 43 = .ok (.goto 4, 3) := by decide +kernel
theorem dX13_takers_46 : decode cX13_takers 46 = .ok (.iconst 0, 1) := by decide +kernel
theorem dX13_takers_47 : decode cX13_takers 47 = .ok (.ior, 1) := by decide +kernel
theorem dX13_takers_48 : decode cX13_takers 48 = .ok (.istore_n 2, 1) := by decide +kernel
theorem dX13_takers_49 : decode cX13_takers 49 = .ok (.iinc 3 1, 3) := by decide +kernel
theorem dX13_takers_52 : decode cX13_takers 52 = .ok (.goto (-30), 3) := by decide +kernel
theorem dX13_takers_55 : decode cX13_takers 55 = .ok (.iload_n 2, 1) := by decide +kernel
theorem dX13_takers_56 : decode cX13_takers 56 = .ok (.ireturn, 1) := by decide +kernel
theorem dX13_canBeSet_0 : decode cX13_canBeSet 0 = .ok (.iconst 0, 1) := by decide +kernel
theorem dX13_canBeSet_1 : decode cX13_canBeSet 1 = .ok (.istore_n 3, 1) := by decide +kernel
theorem dX13_canBeSet_2 : decode cX13_canBeSet 2 = .ok (.iload_n 3, 1) := by decide +kernel
theorem dX13_canBeSet_3 : decode cX13_canBeSet 3 = .ok (.iload_n 2, 1) := by decide +kernel
theorem dX13_canBeSet_4 : decode cX13_canBeSet 4 = .ok (.if_icmp .ge 79, 3) := by decide +kernel
theorem dX13_canBeSet_7 : decode cX13_canBeSet 7 = .ok (.aload_n 0, 1) := by decide +kernel
theorem dX13_canBeSet_8 : decode cX13_canBeSet 8 = .ok (.getfield 210, 3) := by decide +kernel
theorem dX13_canBeSet_11 : decode cX13_canBeSet 11 = .ok (.iload_n 3, 1) := by decide +kernel
theorem dX13_canBeSet_12 : decode cX13_canBeSet 12 = .ok (.iaload, 1) := by decide +kernel
theorem dX13_canBeSet_13 : decode cX13_canBeSet 13 = .ok (.istore 4, 2) := by decide +kernel
theorem dX13_canBeSet_15 : decode cX13_canBeSet 15 = .ok (.aload_n 0, 1) := by decide +kernel
theorem dX13_canBeSet_16 : decode cX13_canBeSet 16 = .ok (.getfield 90, 3) := by decide +kernel
theorem dX13_canBeSet_19 : decode cX13_canBeSet 19 = .ok (.iload 4, 2) := by decide +kernel
theorem dX13_canBeSet_21 : decode cX13_canBeSet 21 = .ok (.iaload, 1) := by decide +kernel
theorem dX13_canBeSet_22 : decode cX13_canBeSet 22 = .ok (.ifCond .ne 55, 3) := by decide +kernel
theorem dX13_canBeSet_25 : decode cX13_canBeSet 25 = .ok (.aload_n 0, 1) := by decide +kernel
theorem dX13_canBeSet_26 : decode cX13_canBeSet 26 = .ok (.getfield 108, 3) := by decide +kernel
theorem dX13_canBeSet_29 : decode cX13_canBeSet 29 = .ok (.iload 4, 2) := by decide +kernel
theorem dX13_canBeSet_31 : decode cX13_canBeSet 31 = .ok (.baload, 1) := by decide +kernel
theorem dX13_canBeSet_32 : decode cX13_canBeSet 32 = .ok (.ifCond .eq 6, 3) := by decide +kernel
theorem dX13_canBeSet_35 : decode cX13_canBeSet 35 = .ok (.goto 42, 3) := by decide +kernel
theorem dX13_canBeSet_38 : decode cX13_canBeSet 38 = .ok (.aload_n 0, 1) := by decide +kernel
theorem dX13_canBeSet_39 : decode cX13_canBeSet 39 = .ok (.iload 4, 2) := by decide +kernel
theorem dX13_canBeSet_41 : decode cX13_canBeSet 41 = .ok (.invokevirtual 458, 3) := by decide +kernel
theorem dX13_canBeSet_44 : decode cX13_canBeSet 44 = .ok (.ifCond .ne 5, 3) := by decide +kernel
theorem dX13_canBeSet_47 : decode cX13_canBeSet 47 = .ok (.iconst 0, 1) := by decide +kernel
theorem dX13_canBeSet_48 : decode cX13_canBeSet 48 = .ok (.ireturn, 1) := by decide +kernel
theorem dX13_canBeSet_49 : decode cX13_canBeSet 49 = .ok (.aload_n 0, 1) := by decide +kernel
theorem dX13_canBeSet_50 : decode cX13_canBeSet 50 = .ok (.iload 4, 2) := by decide +kernel
theorem dX13_canBeSet_52 : decode cX13_canBeSet 52 = .ok (.aload_n 0, 1) := by decide +kernel
theorem dX13_canBeSet_53 : decode cX13_canBeSet 53 = .ok (.getfield 105, 3) := by decide +kernel
theorem dX13_canBeSet_56 : decode cX13_canBeSet 56 = .ok (.iload 4, 2) := by decide +kernel
theorem dX13_canBeSet_58 : decode cX13_canBeSet 58 = .ok (.iaload, 1) := by decide +kernel
theorem dX13_canBeSet_59 : decode cX13_canBeSet 59 = .ok (.invokevirtual 470, 3) := by decide +kernel
theorem dX13_canBeSet_62 : decode cX13_canBeSet 62 = .ok (.aload_n 0, 1) := by decide +kernel
theorem dX13_canBeSet_63 : decode cX13_canBeSet 63 = .ok (.iconst 3, 1) := by decide +kernel
theorem dX13_canBeSet_64 : decode cX13_canBeSet 64 = .ok (.iload_n 1, 1) := by decide +kernel
theorem dX13_canBeSet_65 : decode cX13_canBeSet 65 = .ok (.aload_n 0, 1) := by decide +kernel
theorem dX13_canBeSet_66 : decode cX13_canBeSet 66 = .ok (.getfield 383, 3) := by decide +kernel
theorem dX13_canBeSet_69 : decode cX13_canBeSet 69 = .ok (.invokevirtual 404, 3) := by decide +kernel
theorem dX13_canBeSet_72 : decode cX13_canBeSet 72 = .ok (.ifCond .ne 5, 3) := by decide +kernel
theorem dX13_canBeSet_75 : decode cX13_canBeSet 75 = .ok (.iconst 0, 1) := by decide +kernel
theorem dX13_canBeSet_76 : decode cX13_canBeSet 76 = .ok (.ireturn, 1) := by decide +kernel
theorem dX13_canBeSet_77 : decode cX13_canBeSet 77 = .ok (.iinc 3 1, 3) := by decide +kernel
theorem dX13_canBeSet_80 : decode cX13_canBeSet 80 = .ok (.goto (-78), 3) := by decide +kernel
theorem dX13_canBeSet_83 : decode cX13_canBeSet 83 = .ok (.iconst 1, 1) := by decide +kernel
theorem dX13_canBeSet_84 : decode cX13_canBeSet 84 = .ok (.ireturn, 1) := by decide +kernel
theorem dX13_set_0 : decode cX13_set 0 = .ok (.iload_n 1, 1) := by decide +kernel
theorem dX13_set_1 : decode cX13_set 1 = .ok (.invokestatic 377, 3) := by decide +kernel
theorem dX13_set_4 : decode cX13_set 4 = .ok (.ifCond .eq 12, 3) := by decide +kernel
theorem dX13_set_7 : decode cX13_set 7 = .ok (.aload_n 0, 1) := by decide +kernel
theorem dX13_set_8 : decode cX13_set 8 = .ok (.getfield 68, 3) := by decide +kernel
theorem dX13_set_11 : decode cX13_set 11 = .ok (.iload_n 1, 1) := by decide +kernel
theorem dX13_set_12 : decode cX13_set 12 = .ok (.baload, 1) := by decide +kernel
theorem dX13_set_13 : decode cX13_set 13 = .ok (.ifCond .eq 5, 3) := by decide +kernel
theorem dX13_set_16 : decode cX13_set 16 = .ok (.iconst (-1), 1) := by decide +kernel
theorem dX13_set_17 : decode cX13_set 17 = .ok (.ireturn, 1) := by decide +kernel
theorem dX13_set_18 : decode cX13_set 18 = .ok (.aload_n 0, 1) := by decide +kernel
theorem dX13_set_19 : decode cX13_set 19 = .ok (.iload_n 1, 1) := by decide +kernel
theorem dX13_set_20 : decode cX13_set 20 = .ok (.invokevirtual 442, 3) := by decide +kernel
theorem dX13_set_23 : decode cX13_set 23 = .ok (.istore_n 2, 1) := by decide +kernel
theorem dX13_set_24 : decode cX13_set 24 = .ok (.aload_n 0, 1) := by decide +kernel
theorem dX13_set_25 : decode cX13_set 25 = .ok (.iload_n 1, 1) := by decide +kernel
theorem dX13_set_26 : decode cX13_set 26 = .ok (.iload_n 2, 1) := by decide +kernel
theorem dX13_set_27 : decode cX13_set 27 = .ok (.invokevirtual 506, 3) := by decide +kernel
theorem dX13_set_30 : decode cX13_set 30 = .ok (.ifCond .ne 5, 3) := by decide +kernel
theorem dX13_set_33 : decode cX13_set 33 = .ok (.iconst (-1), 1) := by decide +kernel
theorem dX13_set_34 : decode cX13_set 34 = .ok (.ireturn, 1) := by decide +kernel
theorem dX13_set_35 : decode cX13_set 35 = .ok (.iconst 0, 1) := by decide +kernel
theorem dX13_set_36 : decode cX13_set 36 = .ok (.istore_n 3, 1) := by decide +kernel
theorem dX13_set_37 : decode cX13_set 37 = .ok (.iconst 0, 1) := by decide +kernel
theorem dX13_set_38 : decode cX13_set 38 = .ok (.istore 4, 2) := by decide +kernel
theorem dX13_set_40 : decode cX13_set 40 = .ok (.iconst 0, 1) := by decide +kernel
theorem dX13_set_41 : decode cX13_set 41 = .ok (.istore 5, 2) := by decide +kernel
theorem dX13_set_43 : decode cX13_set 43 = .ok (.iload 5, 2) := by decide +kernel
theorem dX13_set_45 : decode cX13_set 45 = .ok (.iload_n 2, 1) := by decide +kernel
theorem dX13_set_46 : decode cX13_set 46 = .ok (.if_icmp .ge 160, 3) := by decide +kernel
theorem dX13_set_49 : decode cX13_set 49 = .ok (.aload_n 0, 1) := by decide +kernel
theorem dX13_set_50 : decode cX13_set 50 = .ok (.getfield 210, 3) := by decide +kernel
theorem dX13_set_53 : decode cX13_set 53 = .ok (.iload 5, 2) := by decide +kernel
theorem dX13_set_55 : decode cX13_set 55 = .ok (.iaload, 1) := by decide +kernel
theorem dX13_set_56 : decode cX13_set 56 = .ok (.istore 6, 2) := by decide +kernel
theorem dX13_set_58 : decode cX13_set 58 = .ok (.aload_n 0, 1) := by decide +kernel
theorem dX13_set_59 : decode cX13_set 59 = .ok (.getfield 78, 3) := by decide +kernel
theorem dX13_set_62 : decode cX13_set 62 = .ok (.bipush 60, 2) := by decide +kernel
theorem dX13_set_64 : decode cX13_set 64 = .ok (.iload_n 1, 1) := by decide +kernel
theorem dX13_set_65 : decode cX13_set 65 = .ok (.imul, 1) := by decide +kernel
theorem dX13_set_66 : decode cX13_set 66 = .ok (.iload 5, 2) := by decide +kernel
theorem dX13_set_68 : decode cX13_set 68 = .ok (.iadd, 1) := by decide +kernel
theorem dX13_set_69 : decode cX13_set 69 = .ok (.iload 6, 2) := by decide +kernel
theorem dX13_set_71 : decode cX13_set 71 = .ok (.iastore, 1) := by decide +kernel
theorem dX13_set_72 : decode cX13_set 72 = .ok (.aload_n 0, 1) := by decide +kernel
theorem dX13_set_73 : decode cX13_set 73 = .ok (.getfield 114, 3) := by decide +kernel
theorem dX13_set_76 : decode cX13_set 76 = .ok (.iload 6, 2) := by decide +kernel
theorem dX13_set_78 : decode cX13_set 78 = .ok (.iload_n 1, 1) := by decide +kernel
theorem dX13_set_79 : decode cX13_set 79 = .ok (.iastore, 1) := by decide +kernel
theorem dX13_set_80 : decode cX13_set 80 = .ok (.aload_n 0, 1) := by decide +kernel
theorem dX13_set_81 : decode cX13_set 81 = .ok (.getfield 108, 3) := by decide +kernel
theorem dX13_set_84 : decode cX13_set 84 = .ok (.iload 6, 2) := by decide +kernel
theorem dX13_set_86 : decode cX13_set 86 = .ok (.baload, 1) := by decide +kernel
theorem dX13_set_87 : decode cX13_set 87 = .ok (.ifCond .eq 6, 3) := by decide +kernel
theorem dX13_set_90 : decode cX13_set 90 = .ok (.goto 110, 3) := by decide +kernel
theorem dX13_set_93 : decode cX13_set 93 = .ok (.aload_n 0, 1) := by decide +kernel
theorem dX13_set_94 : decode cX13_set 94 = .ok (.getfield 117, 3) := by decide +kernel
theorem dX13_set_97 : decode cX13_set 97 = .ok (.iload 6, 2) := by decide +kernel
theorem dX13_set_99 : decode cX13_set 99 = .ok (.iconst 1, 1) := by decide +kernel
theorem dX13_set_100 : decode cX13_set 100 = .ok (.iload_n 3, 1) := by decide +kernel
theorem dX13_set_101 : decode cX13_set 101 = .ok (.bipush 40, 2) := by decide +kernel
theorem dX13_set_103 : decode cX13_set 103 = .ok (.idiv, 1) := by decide +kernel
theorem dX13_set_104 : decode cX13_set 104 = .ok (.iadd, 1) := by decide +kernel
theorem dX13_set_105 : decode cX13_set 105 = .ok (.iastore, 1) := by decide +kernel
theorem dX13_set_106 : decode cX13_set 106 = .ok (.aload_n 0, 1) := by decide +kernel
theorem dX13_set_107 : decode cX13_set 107 = .ok (.getfield 90, 3) := by decide +kernel
theorem dX13_set_110 : decode cX13_set 110 = .ok (.iload 6, 2) := by decide +kernel
theorem dX13_set_112 : decode cX13_set 112 = .ok (.iaload, 1) := by decide +kernel
theorem dX13_set_113 : decode cX13_set 113 = .ok (.ifCond .eq 26, 3) := by decide +kernel
theorem dX13_set_116 : decode cX13_set 116 = .ok (.iload_n 3, 1) := by decide +kernel
theorem dX13_set_117 : decode cX13_set 117 = .ok (.aload_n 0, 1) := by decide +kernel
theorem dX13_set_118 : decode cX13_set 118 = .ok (.getfield 90, 3) := by decide +kernel
theorem dX13_set_121 : decode cX13_set 121 = .ok (.iload 6, 2) := by decide +kernel
theorem dX13_set_123 : decode cX13_set 123 = .ok (.iaload, 1) := by decide +kernel
theorem dX13_set_124 : decode cX13_set 124 = .ok (.iconst 1, 1) := by decide +kernel
theorem dX13_set_125 : decode cX13_set 125 = .ok (.if_icmp .ne 7, 3) := by decide +kernel
theorem dX13_set_128 : decode cX13_set 128 = .ok (.iconst 1, 1) := by decide +kernel
theorem dX13_set_129 : decode cX13_set 129 = .ok (.goto 5, 3) := by decide +kernel
theorem dX13_set_132 : decode cX13_set 132 = .ok (.bipush 10, 2) := by decide +kernel
theorem dX13_set_134 : decode cX13_set 134 = .ok (.iadd, 1) := by decide +kernel
theorem dX13_set_135 : decode cX13_set 135 = .ok (.istore_n 3, 1) := by decide +kernel
theorem dX13_set_136 : decode cX13_set 136 = .ok (.goto 64, 3) := by decide +kernel
theorem dX13_set_139 : decode cX13_set 139 = .ok (.iconst 0, 1) := by decide +kernel
theorem dX13_set_140 : decode cX13_set 140 = .ok (.istore 7, 2) := by decide +kernel
theorem dX13_set_142 : decode cX13_set 142 = .ok (.iload 7, 2) := by decide +kernel
theorem dX13_set_144 : decode cX13_set 144 = .ok (.aload_n 0, 1) := by decide +kernel
theorem dX13_set_145 : decode cX13_set 145 = .ok (.getfield 452, 3) := by decide +kernel
theorem dX13_set_148 : decode cX13_set 148 = .ok (.if_icmp .ge 52, 3) := by decide +kernel
theorem dX13_set_151 : decode cX13_set 151 = .ok (.aload_n 0, 1) := by decide +kernel
theorem dX13_set_152 : decode cX13_set 152 = .ok (.getfield 135, 3) := by decide +kernel
theorem dX13_set_155 : decode cX13_set 155 = .ok (.iload 7, 2) := by decide +kernel
theorem dX13_set_157 : decode cX13_set 157 = .ok (.iaload, 1) := by decide +kernel
theorem dX13_set_158 : decode cX13_set 158 = .ok (.iload 6, 2) := by decide +kernel
theorem dX13_set_160 : decode cX13_set 160 = .ok (.if_icmp .eq 6, 3) := by decide +kernel
theorem dX13_set_163 : decode cX13_set 163 = .ok (.goto 31, 3) := by decide +kernel
theorem dX13_set_166 : decode cX13_set 166 = .ok (.aload_n 0, 1) := by decide +kernel
theorem dX13_set_167 : decode cX13_set 167 = .ok (.getfield 156, 3) := by decide +kernel
theorem dX13_set_170 : decode cX13_set 170 = .ok (.iload 7, 2) := by decide +kernel
theorem dX13_set_172 : decode cX13_set 172 = .ok (.iconst 1, 1) := by decide +kernel
theorem dX13_set_173 : decode cX13_set 173 = .ok (.iload_n 3, 1) := by decide +kernel
theorem dX13_set_174 : decode cX13_set 174 = .ok (.bipush 40, 2) := by decide +kernel
theorem dX13_set_176 : decode cX13_set 176 = .ok (.idiv, 1) := by decide +kernel
theorem dX13_set_177 : decode cX13_set 177 = .ok (.iadd, 1) := by decide +kernel
theorem dX13_set_178 : decode cX13_set 178 = .ok (.iastore, 1) := by decide +kernel
theorem dX13_set_179 : decode cX13_set 179 = .ok (.aload_n 0, 1) := by decide +kernel
theorem dX13_set_180 : decode cX13_set 180 = .ok (.getfield 159, 3) := by decide +kernel
theorem dX13_set_183 : decode cX13_set 183 = .ok (.iload 7, 2) := by decide +kernel
theorem dX13_set_185 : decode cX13_set 185 = .ok (.iload 4, 2) := by decide +kernel
theorem dX13_set_187 : decode cX13_set 187 = .ok (.iastore, 1) := by decide +kernel
theorem dX13_set_188 : decode cX13_set 188 = .ok (.iinc 4 1, 3) := by decide +kernel
theorem dX13_set_191 : decode cX13_set 191 = .ok (.iinc 3 1, 3) := by decide +kernel
theorem dX13_set_194 : decode cX13_set 194 = .ok (.iinc 7 1, 3) := by decide +kernel
theorem dX13_set_197 : decode cX13_set 197 = .ok (.goto (-55), 3) := by decide +kernel
theorem dX13_set_200 : decode cX13_set 200 = .ok (.iinc 5 1, 3) := by decide +kernel
theorem dX13_set_203 : decode cX13_set 203 = .ok (.goto (-160), 3) := by decide +kernel
theorem dX13_set_206 : decode cX13_set 206 = .ok (.aload_n 0, 1) := by decide +kernel
theorem dX13_set_207 : decode cX13_set 207 = .ok (.getfield 68, 3) := by decide +kernel
theorem dX13_set_210 : decode cX13_set 210 = .ok (.iload_n 1, 1) := by decide +kernel
theorem dX13_set_211 : decode cX13_set 211 = .ok (.iconst 1, 1) := by decide +kernel
theorem dX13_set_212 : decode cX13_set 212 = .ok (.bastore, 1) := by decide +kernel
theorem dX13_set_213 : decode cX13_set 213 = .ok (.aload_n 0, 1) := by decide +kernel
theorem dX13_set_214 : decode cX13_set 214 = .ok (.getfield 72, 3) := by decide +kernel
theorem dX13_set_217 : decode cX13_set 217 = .ok (.iload_n 1, 1) := by decide +kernel
theorem dX13_set_218 : decode cX13_set 218 = .ok (.aload_n 0, 1) := by decide +kernel
theorem dX13_set_219 : decode cX13_set 219 = .ok (.getfield 383, 3) := by decide +kernel
theorem dX13_set_222 : decode cX13_set 222 = .ok (.iastore, 1) := by decide +kernel
theorem dX13_set_223 : decode cX13_set 223 = .ok (.aload_n 0, 1) := by decide +kernel
theorem dX13_set_224 : decode cX13_set 224 = .ok (.getfield 75, 3) := by decide +kernel
theorem dX13_set_227 : decode cX13_set 227 = .ok (.iload_n 1, 1) := by decide +kernel
theorem dX13_set_228 : decode cX13_set 228 = .ok (.iload_n 2, 1) := by decide +kernel
theorem dX13_set_229 : decode cX13_set 229 = .ok (.iastore, 1) := by decide +kernel
theorem dX13_set_230 : decode cX13_set 230 = .ok (.aload_n 0, 1) := by decide +kernel
theorem dX13_set_231 : decode cX13_set 231 = .ok (.getfield 81, 3) := by decide +kernel
theorem dX13_set_234 : decode cX13_set 234 = .ok (.iload_n 1, 1) := by decide +kernel
theorem dX13_set_235 : decode cX13_set 235 = .ok (.iload_n 3, 1) := by decide +kernel
theorem dX13_set_236 : decode cX13_set 236 = .ok (.iastore, 1) := by decide +kernel
theorem dX13_set_237 : decode cX13_set 237 = .ok (.iload_n 3, 1) := by decide +kernel
theorem dX13_set_238 : decode cX13_set 238 = .ok (.bipush 40, 2) := by decide +kernel
theorem dX13_set_240 : decode cX13_set 240 = .ok (.iadd, 1) := by decide +kernel
theorem dX13_set_241 : decode cX13_set 241 = .ok (.iconst 1, 1) := by decide +kernel
theorem dX13_set_242 : decode cX13_set 242 = .ok (.isub, 1) := by decide +kernel
theorem dX13_set_243 : decode cX13_set 243 = .ok (.bipush 40, 2) := by decide +kernel
theorem dX13_set_245 : decode cX13_set 245 = .ok (.idiv, 1) := by decide +kernel
theorem dX13_set_246 : decode cX13_set 246 = .ok (.ireturn, 1) := by decide +kernel
theorem dX13_isGone_0 : decode cX13_isGone 0 = .ok (.aload_n 0, 1) := by decide +kernel
theorem dX13_isGone_1 : decode cX13_isGone 1 = .ok (.getfield 108, 3) := by decide +kernel
theorem dX13_isGone_4 : decode cX13_isGone 4 = .ok (.iload_n 1, 1) := by decide +kernel
theorem dX13_isGone_5 : decode cX13_isGone 5 = .ok (.baload, 1) := by decide +kernel
theorem dX13_isGone_6 : decode cX13_isGone 6 = .ok (.ifCond .ne 13, 3) := by decide +kernel
theorem dX13_isGone_9 : decode cX13_isGone 9 = .ok (.aload_n 0, 1) := by decide +kernel
theorem dX13_isGone_10 : decode cX13_isGone 10 = .ok (.iload_n 1, 1) := by decide +kernel
theorem dX13_isGone_11 : decode cX13_isGone 11 = .ok (.invokevirtual 433, 3) := by decide +kernel
theorem dX13_isGone_14 : decode cX13_isGone 14 = .ok (.bipush 6, 2) := by decide +kernel
theorem dX13_isGone_16 : decode cX13_isGone 16 = .ok (.if_icmp .ne 7, 3) := by decide +kernel
theorem dX13_isGone_19 : decode cX13_isGone 19 = .ok (.iconst 1, 1) := by decide +kernel
theorem dX13_isGone_20 : decode cX13_isGone 20 = .ok (.goto 4, 3) := by decide +kernel
theorem dX13_isGone_23 : decode cX13_isGone 23 = .ok (.iconst 0, 1) := by decide +kernel
theorem dX13_isGone_24 : decode cX13_isGone 24 = .ok (.ireturn, 1) := by decide +kernel
theorem dX13_owed_0 : decode cX13_owed 0 = .ok (.iload_n 1, 1) := by decide +kernel
theorem dX13_owed_1 : decode cX13_owed 1 = .ok (.iconst 0, 1) := by decide +kernel
theorem dX13_owed_2 : decode cX13_owed 2 = .ok (.bipush 9, 2) := by decide +kernel
theorem dX13_owed_4 : decode cX13_owed 4 = .ok (.invokestatic 256, 3) := by decide +kernel
theorem dX13_owed_7 : decode cX13_owed 7 = .ok (.ifCond .eq 38, 3) := by decide +kernel
theorem dX13_owed_10 : decode cX13_owed 10 = .ok (.aload_n 0, 1) := by decide +kernel
theorem dX13_owed_11 : decode cX13_owed 11 = .ok (.getfield 189, 3) := by decide +kernel
theorem dX13_owed_14 : decode cX13_owed 14 = .ok (.iload_n 1, 1) := by decide +kernel
theorem dX13_owed_15 : decode cX13_owed 15 = .ok (.iaload, 1) := by decide +kernel
theorem dX13_owed_16 : decode cX13_owed 16 = .ok (.ifCond .eq 29, 3) := by decide +kernel
theorem dX13_owed_19 : decode cX13_owed 19 = .ok (.iload_n 2, 1) := by decide +kernel
theorem dX13_owed_20 : decode cX13_owed 20 = .ok (.invokestatic 377, 3) := by decide +kernel
theorem dX13_owed_23 : decode cX13_owed 23 = .ok (.ifCond .eq 22, 3) := by decide +kernel
theorem dX13_owed_26 : decode cX13_owed 26 = .ok (.aload_n 0, 1) := by decide +kernel
theorem dX13_owed_27 : decode cX13_owed 27 = .ok (.getfield 68, 3) := by decide +kernel
theorem dX13_owed_30 : decode cX13_owed 30 = .ok (.iload_n 2, 1) := by decide +kernel
theorem dX13_owed_31 : decode cX13_owed 31 = .ok (.baload, 1) := by decide +kernel
theorem dX13_owed_32 : decode cX13_owed 32 = .ok (.ifCond .eq 13, 3) := by decide +kernel
theorem dX13_owed_35 : decode cX13_owed 35 = .ok (.iload_n 2, 1) := by decide +kernel
theorem dX13_owed_36 : decode cX13_owed 36 = .ok (.aload_n 0, 1) := by decide +kernel
theorem dX13_owed_37 : decode cX13_owed 37 = .ok (.getfield 186, 3) := by decide +kernel
theorem dX13_owed_40 : decode cX13_owed 40 = .ok (.iload_n 1, 1) := by decide +kernel
theorem dX13_owed_41 : decode cX13_owed 41 = .ok (.iaload, 1) := by decide +kernel
theorem dX13_owed_42 : decode cX13_owed 42 = .ok (.if_icmp .ge 5, 3) := by decide +kernel
theorem dX13_owed_45 : decode cX13_owed 45 = .ok (.iconst (-1), 1) := by decide +kernel
theorem dX13_owed_46 : decode cX13_owed 46 = .ok (.ireturn, 1) := by decide +kernel
theorem dX13_owed_47 : decode cX13_owed 47 = .ok (.iconst 0, 1) := by decide +kernel
theorem dX13_owed_48 : decode cX13_owed 48 = .ok (.istore_n 3, 1) := by decide +kernel
theorem dX13_owed_49 : decode cX13_owed 49 = .ok (.iload_n 3, 1) := by decide +kernel
theorem dX13_owed_50 : decode cX13_owed 50 = .ok (.bipush 9, 2) := by decide +kernel
theorem dX13_owed_52 : decode cX13_owed 52 = .ok (.if_icmp .ge 16, 3) := by decide +kernel
theorem dX13_owed_55 : decode cX13_owed 55 = .ok (.aload_n 0, 1) := by decide +kernel
theorem dX13_owed_56 : decode cX13_owed 56 = .ok (.getfield 195, 3) := by decide +kernel
theorem dX13_owed_59 : decode cX13_owed 59 = .ok (.iload_n 3, 1) := by decide +kernel
theorem dX13_owed_60 : decode cX13_owed 60 = .ok (.iconst 0, 1) := by decide +kernel
theorem dX13_owed_61 : decode cX13_owed 61 = .ok (.iastore, 1) := by decide +kernel
theorem dX13_owed_62 : decode cX13_owed 62 = .ok (.iinc 3 1, 3) := by decide +kernel
theorem dX13_owed_65 : decode cX13_owed 65 = .ok (.goto (-16), 3) := by decide +kernel
theorem dX13_owed_68 : decode cX13_owed 68 = .ok (.iconst 0, 1) := by decide +kernel
theorem dX13_owed_69 : decode cX13_owed 69 = .ok (.istore_n 3, 1) := by decide +kernel
theorem dX13_owed_70 : decode cX13_owed 70 = .ok (.iload_n 3, 1) := by decide +kernel
theorem dX13_owed_71 : decode cX13_owed 71 = .ok (.aload_n 0, 1) := by decide +kernel
theorem dX13_owed_72 : decode cX13_owed 72 = .ok (.getfield 418, 3) := by decide +kernel
theorem dX13_owed_75 : decode cX13_owed 75 = .ok (.if_icmp .ge 43, 3) := by decide +kernel
theorem dX13_owed_78 : decode cX13_owed 78 = .ok (.aload_n 0, 1) := by decide +kernel
theorem dX13_owed_79 : decode cX13_owed 79 = .ok (.getfield 195, 3) := by decide +kernel
theorem dX13_owed_82 : decode cX13_owed 82 = .ok (.bipush 8, 2) := by decide +kernel
theorem dX13_owed_84 : decode cX13_owed 84 = .ok (.dup2, 1) := by decide +kernel
theorem dX13_owed_85 : decode cX13_owed 85 = .ok (.iaload, 1) := by decide +kernel
theorem dX13_owed_86 : decode cX13_owed 86 = .ok (.aload_n 0, 1) := by decide +kernel
theorem dX13_owed_87 : decode cX13_owed 87 = .ok (.getfield 114, 3) := by decide +kernel
theorem dX13_owed_90 : decode cX13_owed 90 = .ok (.iload_n 3, 1) := by decide +kernel
theorem dX13_owed_91 : decode cX13_owed 91 = .ok (.iaload, 1) := by decide +kernel
theorem dX13_owed_92 : decode cX13_owed 92 = .ok (.iload_n 2, 1) := by decide +kernel
theorem dX13_owed_93 : decode cX13_owed 93 = .ok (.if_icmp .ne 16, 3) := by decide +kernel
theorem dX13_owed_96 : decode cX13_owed 96 = .ok (.aload_n 0, 1) := by decide +kernel
theorem dX13_owed_97 : decode cX13_owed 97 = .ok (.getfield 108, 3) := by decide +kernel
theorem dX13_owed_100 : decode cX13_owed 100 = .ok (.iload_n 3, 1) := by decide +kernel
theorem dX13_owed_101 : decode cX13_owed 101 = .ok (.baload, 1) := by decide +kernel
theorem dX13_owed_102 : decode cX13_owed 102 = .ok (.ifCond .eq 7, 3) := by decide +kernel
theorem dX13_owed_105 : decode cX13_owed 105 = .ok (.iconst 1, 1) := by decide +kernel
theorem dX13_owed_106 : decode cX13_owed 106 = .ok (.goto 4, 3) := by decide +kernel
theorem dX13_owed_109 : decode cX13_owed 109 = .ok (.iconst 0, 1) := by decide +kernel
theorem dX13_owed_110 : decode cX13_owed 110 = .ok (.iadd, 1) := by decide +kernel
theorem dX13_owed_111 : decode cX13_owed 111 = .ok (.iastore, 1) := by decide +kernel
theorem dX13_owed_112 : decode cX13_owed 112 = .ok (.iinc 3 1, 3) := by decide +kernel
theorem dX13_owed_115 : decode cX13_owed 115 = .ok (.goto (-45), 3) := by decide +kernel
theorem dX13_owed_118 : decode cX13_owed 118 = .ok (.aload_n 0, 1) := by decide +kernel
theorem dX13_owed_119 : decode cX13_owed 119 = .ok (.getfield 195, 3) := by decide +kernel
theorem dX13_owed_122 : decode cX13_owed 122 = .ok (.iconst 1, 1) := by decide +kernel
theorem dX13_owed_123 : decode cX13_owed 123 = .ok (.aload_n 0, 1) := by decide +kernel
theorem dX13_owed_124 : decode cX13_owed 124 = .ok (.getfield 81, 3) := by decide +kernel
theorem dX13_owed_127 : decode cX13_owed 127 = .ok (.iload_n 2, 1) := by decide +kernel
theorem dX13_owed_128 : decode cX13_owed 128 = .ok (.iaload, 1) := by decide +kernel
theorem dX13_owed_129 : decode cX13_owed 129 = .ok (.iastore, 1) := by decide +kernel
theorem dX13_owed_130 : decode cX13_owed 130 = .ok (.aload_n 0, 1) := by decide +kernel
theorem dX13_owed_131 : decode cX13_owed 131 = .ok (.getfield 195, 3) := by decide +kernel
theorem dX13_owed_134 : decode cX13_owed 134 = .ok (.bipush 7, 2) := by decide +kernel
theorem dX13_owed_136 : decode cX13_owed 136 = .ok (.iload_n 2, 1) := by decide +kernel
theorem dX13_owed_137 : decode cX13_owed 137 = .ok (.iastore, 1) := by decide +kernel
theorem dX13_owed_138 : decode cX13_owed 138 = .ok (.aload_n 0, 1) := by decide +kernel
theorem dX13_owed_139 : decode cX13_owed 139 = .ok (.iconst 4, 1) := by decide +kernel
theorem dX13_owed_140 : decode cX13_owed 140 = .ok (.iload_n 2, 1) := by decide +kernel
theorem dX13_owed_141 : decode cX13_owed 141 = .ok (.aload_n 0, 1) := by decide +kernel
theorem dX13_owed_142 : decode cX13_owed 142 = .ok (.getfield 72, 3) := by decide +kernel
theorem dX13_owed_145 : decode cX13_owed 145 = .ok (.iload_n 2, 1) := by decide +kernel
theorem dX13_owed_146 : decode cX13_owed 146 = .ok (.iaload, 1) := by decide +kernel
theorem dX13_owed_147 : decode cX13_owed 147 = .ok (.invokevirtual 404, 3) := by decide +kernel
theorem dX13_owed_150 : decode cX13_owed 150 = .ok (.istore_n 3, 1) := by decide +kernel
theorem dX13_owed_151 : decode cX13_owed 151 = .ok (.iload_n 3, 1) := by decide +kernel
theorem dX13_owed_152 : decode cX13_owed 152 = .ok (.ifCond .ge 7, 3) := by decide +kernel
theorem dX13_owed_155 : decode cX13_owed 155 = .ok (.iconst 0, 1) := by decide +kernel
theorem dX13_owed_156 : decode cX13_owed 156 = .ok (.goto 23, 3) := by decide +kernel
theorem dX13_owed_159 : decode cX13_owed 159 = .ok (.iload_n 3, 1) := by decide +kernel
theorem dX13_owed_160 : decode cX13_owed 160 = .ok (.aload_n 0, 1) := by decide +kernel
theorem dX13_owed_161 : decode cX13_owed 161 = .ok (.getfield 189, 3) := by decide +kernel
theorem dX13_owed_164 : decode cX13_owed 164 = .ok (.iload_n 1, 1) := by decide +kernel
theorem dX13_owed_165 : decode cX13_owed 165 = .ok (.iaload, 1) := by decide +kernel
theorem dX13_owed_166 : decode cX13_owed 166 = .ok (.if_icmp .le 12, 3) := by decide +kernel
theorem dX13_owed_169 : decode cX13_owed 169 = .ok (.aload_n 0, 1) := by decide +kernel
theorem dX13_owed_170 : decode cX13_owed 170 = .ok (.getfield 189, 3) := by decide +kernel
theorem dX13_owed_173 : decode cX13_owed 173 = .ok (.iload_n 1, 1) := by decide +kernel
theorem dX13_owed_174 : decode cX13_owed 174 = .ok (.iaload, 1) := by decide +kernel
theorem dX13_owed_175 : decode cX13_owed 175 = .ok (.goto 4, 3) := by decide +kernel
theorem dX13_owed_178 : decode cX13_owed 178 = .ok (.iload_n 3, 1) := by decide +kernel
theorem dX13_owed_179 : decode cX13_owed 179 = .ok (.ireturn, 1) := by decide +kernel
theorem dX13_bringsTo_0 : decode cX13_bringsTo 0 = .ok (.iload_n 1, 1) := by decide +kernel
theorem dX13_bringsTo_1 : decode cX13_bringsTo 1 = .ok (.invokestatic 377, 3) := by decide +kernel
theorem dX13_bringsTo_4 : decode cX13_bringsTo 4 = .ok (.ifCond .eq 23, 3) := by decide +kernel
theorem dX13_bringsTo_7 : decode cX13_bringsTo 7 = .ok (.aload_n 0, 1) := by decide +kernel
theorem dX13_bringsTo_8 : decode cX13_bringsTo 8 = .ok (.getfield 68, 3) := by decide +kernel
theorem dX13_bringsTo_11 : decode cX13_bringsTo 11 = .ok (.iload_n 1, 1) := by decide +kernel
theorem dX13_bringsTo_12 : decode cX13_bringsTo 12 = .ok (.baload, 1) := by decide +kernel
theorem dX13_bringsTo_13 : decode cX13_bringsTo 13 = .ok (.ifCond .ne 14, 3) := by decide +kernel
theorem dX13_bringsTo_16 : decode cX13_bringsTo 16 = .ok (.iload_n 2, 1) := by decide +kernel
theorem dX13_bringsTo_17 : decode cX13_bringsTo 17 = .ok (.iconst 1, 1) := by decide +kernel
theorem dX13_bringsTo_18 : decode cX13_bringsTo 18 = .ok (.sipush 400, 3) := by decide +kernel
theorem dX13_bringsTo_21 : decode cX13_bringsTo 21 = .ok (.invokestatic 256, 3) := by decide +kernel
theorem dX13_bringsTo_24 : decode cX13_bringsTo 24 = .ok (.ifCond .ne 5, 3) := by decide +kernel
theorem dX13_bringsTo_27 : decode cX13_bringsTo 27 = .ok (.iconst (-1), 1) := by decide +kernel
theorem dX13_bringsTo_28 : decode cX13_bringsTo 28 = .ok (.ireturn, 1) := by decide +kernel
theorem dX13_bringsTo_29 : decode cX13_bringsTo 29 = .ok (.aload_n 0, 1) := by decide +kernel
theorem dX13_bringsTo_30 : decode cX13_bringsTo 30 = .ok (.iload_n 1, 1) := by decide +kernel
theorem dX13_bringsTo_31 : decode cX13_bringsTo 31 = .ok (.invokevirtual 442, 3) := by decide +kernel
theorem dX13_bringsTo_34 : decode cX13_bringsTo 34 = .ok (.istore_n 3, 1) := by decide +kernel
theorem dX13_bringsTo_35 : decode cX13_bringsTo 35 = .ok (.iconst 0, 1) := by decide +kernel
theorem dX13_bringsTo_36 : decode cX13_bringsTo 36 = .ok (.istore 4, 2) := by decide +kernel
theorem dX13_bringsTo_38 : decode cX13_bringsTo 38 = .ok (.iconst 0, 1) := by decide +kernel
theorem dX13_bringsTo_39 : decode cX13_bringsTo 39 = .ok (.istore 5, 2) := by decide +kernel
theorem dX13_bringsTo_41 : decode cX13_bringsTo 41 = .ok (.iconst 0, 1) := by decide +kernel
theorem dX13_bringsTo_42 : decode cX13_bringsTo 42 = .ok (.istore 6, 2) := by decide +kernel
theorem dX13_bringsTo_44 : decode cX13_bringsTo 44 = .ok (.aload_n 0, 1) := by decide +kernel
theorem dX13_bringsTo_45 : decode cX13_bringsTo 45 = .ok (.iconst 0, 1) := by decide +kernel
theorem dX13_bringsTo_46 : decode cX13_bringsTo 46 = .ok (.putfield 515, 3) := by decide +kernel
theorem dX13_bringsTo_49 : decode cX13_bringsTo 49 = .ok (.iconst 0, 1) := by decide +kernel
theorem dX13_bringsTo_50 : decode cX13_bringsTo 50 = .ok (.istore 7, 2) := by decide +kernel
theorem dX13_bringsTo_52 : decode cX13_bringsTo 52 = .ok (.iload 7, 2) := by decide +kernel
theorem dX13_bringsTo_54 : decode cX13_bringsTo 54 = .ok (.iload_n 3, 1) := by decide +kernel
theorem dX13_bringsTo_55 : decode cX13_bringsTo 55 = .ok (.if_icmp .ge 289, 3) := by decide +kernel
theorem dX13_bringsTo_58 : decode cX13_bringsTo 58 = .ok (.aload_n 0, 1) := by decide +kernel
theorem dX13_bringsTo_59 : decode cX13_bringsTo 59 = .ok (.getfield 210, 3) := by decide +kernel
theorem dX13_bringsTo_62 : decode cX13_bringsTo 62 = .ok (.iload 7, 2) := by decide +kernel
theorem dX13_bringsTo_64 : decode cX13_bringsTo 64 = .ok (.iaload, 1) := by decide +kernel
theorem dX13_bringsTo_65 : decode cX13_bringsTo 65 = .ok (.istore 8, 2) := by decide +kernel
theorem dX13_bringsTo_67 : decode cX13_bringsTo 67 = .ok (.aload_n 0, 1) := by decide +kernel
theorem dX13_bringsTo_68 : decode cX13_bringsTo 68 = .ok (.getfield 108, 3) := by decide +kernel
theorem dX13_bringsTo_71 : decode cX13_bringsTo 71 = .ok (.iload 8, 2) := by decide +kernel
theorem dX13_bringsTo_73 : decode cX13_bringsTo 73 = .ok (.baload, 1) := by decide +kernel
theorem dX13_bringsTo_74 : decode cX13_bringsTo 74 = .ok (.ifCond .eq 6, 3) := by decide +kernel
theorem dX13_bringsTo_77 : decode cX13_bringsTo 77 = .ok (.goto 261, 3) := by decide +kernel
theorem dX13_bringsTo_80 : decode cX13_bringsTo 80 = .ok (.aload_n 0, 1) := by decide +kernel
theorem dX13_bringsTo_81 : decode cX13_bringsTo 81 = .ok (.getfield 90, 3) := by decide +kernel
theorem dX13_bringsTo_84 : decode cX13_bringsTo 84 = .ok (.iload 8, 2) := by decide +kernel
theorem dX13_bringsTo_86 : decode cX13_bringsTo 86 = .ok (.iaload, 1) := by decide +kernel
theorem dX13_bringsTo_87 : decode cX13_bringsTo 87 = .ok (.ifCond .eq 46, 3) := by decide +kernel
theorem dX13_bringsTo_90 : decode cX13_bringsTo 90 = .ok (.aload_n 0, 1) := by decide +kernel
theorem dX13_bringsTo_91 : decode cX13_bringsTo 91 = .ok (.getfield 90, 3) := by decide +kernel
theorem dX13_bringsTo_94 : decode cX13_bringsTo 94 = .ok (.iload 8, 2) := by decide +kernel
theorem dX13_bringsTo_96 : decode cX13_bringsTo 96 = .ok (.iaload, 1) := by decide +kernel
theorem dX13_bringsTo_97 : decode cX13_bringsTo 97 = .ok (.iconst 1, 1) := by decide +kernel
theorem dX13_bringsTo_98 : decode cX13_bringsTo 98 = .ok (.if_icmp .ne 7, 3) := by decide +kernel
theorem dX13_bringsTo_101 : decode cX13_bringsTo 101 = .ok (.iconst 1, 1) := by decide +kernel
theorem dX13_bringsTo_102 : decode cX13_bringsTo 102 = .ok (.goto 5, 3) := by decide +kernel
theorem dX13_bringsTo_105 : decode cX13_bringsTo 105 = .ok (.bipush 10, 2) := by decide +kernel
theorem dX13_bringsTo_107 : decode cX13_bringsTo 107 = .ok (.istore 9, 2) := by decide +kernel
theorem dX13_bringsTo_109 : decode cX13_bringsTo 109 = .ok (.iload 4, 2) := by decide +kernel
theorem dX13_bringsTo_111 : decode cX13_bringsTo 111 = .ok (.iload 9, 2) := by decide +kernel
theorem dX13_bringsTo_113 : decode cX13_bringsTo 113 = .ok (.iadd, 1) := by decide +kernel
theorem dX13_bringsTo_114 : decode cX13_bringsTo 114 = .ok (.istore 4, 2) := by decide +kernel
theorem dX13_bringsTo_116 : decode cX13_bringsTo 116 = .ok (.iload 5, 2) := by decide +kernel
theorem dX13_bringsTo_118 : decode cX13_bringsTo 118 = .ok (.iload 9, 2) := by decide +kernel
theorem dX13_bringsTo_120 : decode cX13_bringsTo 120 = .ok (.iadd, 1) := by decide +kernel
theorem dX13_bringsTo_121 : decode cX13_bringsTo 121 = .ok (.istore 5, 2) := by decide +kernel
theorem dX13_bringsTo_123 : decode cX13_bringsTo 123 = .ok (.iload 6, 2) := by decide +kernel
theorem dX13_bringsTo_125 : decode cX13_bringsTo 125 = .ok (.iload 9, 2) := by decide +kernel
theorem dX13_bringsTo_127 : decode cX13_bringsTo 127 = .ok (.iadd, 1) := by decide +kernel
theorem dX13_bringsTo_128 : decode cX13_bringsTo 128 = .ok (.istore 6, 2) := by decide +kernel
theorem dX13_bringsTo_130 : decode cX13_bringsTo 130 = .ok (.goto 208, 3) := by decide +kernel
theorem dX13_bringsTo_133 : decode cX13_bringsTo 133 = .ok (.aload_n 0, 1) := by decide +kernel
theorem dX13_bringsTo_134 : decode cX13_bringsTo 134 = .ok (.iload 8, 2) := by decide +kernel
theorem dX13_bringsTo_136 : decode cX13_bringsTo 136 = .ok (.aload_n 0, 1) := by decide +kernel
theorem dX13_bringsTo_137 : decode cX13_bringsTo 137 = .ok (.getfield 105, 3) := by decide +kernel
theorem dX13_bringsTo_140 : decode cX13_bringsTo 140 = .ok (.iload 8, 2) := by decide +kernel
theorem dX13_bringsTo_142 : decode cX13_bringsTo 142 = .ok (.iaload, 1) := by decide +kernel
theorem dX13_bringsTo_143 : decode cX13_bringsTo 143 = .ok (.invokevirtual 470, 3) := by decide +kernel
theorem dX13_bringsTo_146 : decode cX13_bringsTo 146 = .ok (.aload_n 0, 1) := by decide +kernel
theorem dX13_bringsTo_147 : decode cX13_bringsTo 147 = .ok (.getfield 216, 3) := by decide +kernel
theorem dX13_bringsTo_150 : decode cX13_bringsTo 150 = .ok (.iload 8, 2) := by decide +kernel
theorem dX13_bringsTo_152 : decode cX13_bringsTo 152 = .ok (.aload_n 0, 1) := by decide +kernel
theorem dX13_bringsTo_153 : decode cX13_bringsTo 153 = .ok (.bipush 8, 2) := by decide +kernel
theorem dX13_bringsTo_155 : decode cX13_bringsTo 155 = .ok (.aload_n 0, 1) := by decide +kernel
theorem dX13_bringsTo_156 : decode cX13_bringsTo 156 = .ok (.getfield 93, 3) := by decide +kernel
theorem dX13_bringsTo_159 : decode cX13_bringsTo 159 = .ok (.iload 8, 2) := by decide +kernel
theorem dX13_bringsTo_161 : decode cX13_bringsTo 161 = .ok (.iaload, 1) := by decide +kernel
theorem dX13_bringsTo_162 : decode cX13_bringsTo 162 = .ok (.iadd, 1) := by decide +kernel
theorem dX13_bringsTo_163 : decode cX13_bringsTo 163 = .ok (.iload_n 1, 1) := by decide +kernel
theorem dX13_bringsTo_164 : decode cX13_bringsTo 164 = .ok (.aload_n 0, 1) := by decide +kernel
theorem dX13_bringsTo_165 : decode cX13_bringsTo 165 = .ok (.getfield 383, 3) := by decide +kernel
theorem dX13_bringsTo_168 : decode cX13_bringsTo 168 = .ok (.invokevirtual 404, 3) := by decide +kernel
theorem dX13_bringsTo_171 : decode cX13_bringsTo 171 = .ok (.invokestatic 518, 3) := by decide +kernel
theorem dX13_bringsTo_174 : decode cX13_bringsTo 174 = .ok (.iastore, 1) := by decide +kernel
theorem dX13_bringsTo_175 : decode cX13_bringsTo 175 = .ok (.aload_n 0, 1) := by decide +kernel
theorem dX13_bringsTo_176 : decode cX13_bringsTo 176 = .ok (.getfield 213, 3) := by decide +kernel
theorem dX13_bringsTo_179 : decode cX13_bringsTo 179 = .ok (.iload 8, 2) := by decide +kernel
theorem dX13_bringsTo_181 : decode cX13_bringsTo 181 = .ok (.aload_n 0, 1) := by decide +kernel
theorem dX13_bringsTo_182 : decode cX13_bringsTo 182 = .ok (.iconst 5, 1) := by decide +kernel
theorem dX13_bringsTo_183 : decode cX13_bringsTo 183 = .ok (.aload_n 0, 1) := by decide +kernel
theorem dX13_bringsTo_184 : decode cX13_bringsTo 184 = .ok (.getfield 93, 3) := by decide +kernel
theorem dX13_bringsTo_187 : decode cX13_bringsTo 187 = .ok (.iload 8, 2) := by decide +kernel
theorem dX13_bringsTo_189 : decode cX13_bringsTo 189 = .ok (.iaload, 1) := by decide +kernel
theorem dX13_bringsTo_190 : decode cX13_bringsTo 190 = .ok (.iadd, 1) := by decide +kernel
theorem dX13_bringsTo_191 : decode cX13_bringsTo 191 = .ok (.iload_n 1, 1) := by decide +kernel
theorem dX13_bringsTo_192 : decode cX13_bringsTo 192 = .ok (.aload_n 0, 1) := by decide +kernel
theorem dX13_bringsTo_193 : decode cX13_bringsTo 193 = .ok (.getfield 383, 3) := by decide +kernel
theorem dX13_bringsTo_196 : decode cX13_bringsTo 196 = .ok (.invokevirtual 404, 3) := by decide +kernel
theorem dX13_bringsTo_199 : decode cX13_bringsTo 199 = .ok (.invokestatic 518, 3) := by decide +kernel
theorem dX13_bringsTo_202 : decode cX13_bringsTo 202 = .ok (.iastore, 1) := by decide +kernel
theorem dX13_bringsTo_203 : decode cX13_bringsTo 203 = .ok (.aload_n 0, 1) := by decide +kernel
theorem dX13_bringsTo_204 : decode cX13_bringsTo 204 = .ok (.getfield 213, 3) := by decide +kernel
theorem dX13_bringsTo_207 : decode cX13_bringsTo 207 = .ok (.iload 8, 2) := by decide +kernel
theorem dX13_bringsTo_209 : decode cX13_bringsTo 209 = .ok (.iaload, 1) := by decide +kernel
theorem dX13_bringsTo_210 : decode cX13_bringsTo 210 = .ok (.aload_n 0, 1) := by decide +kernel
theorem dX13_bringsTo_211 : decode cX13_bringsTo 211 = .ok (.getfield 216, 3) := by decide +kernel
theorem dX13_bringsTo_214 : decode cX13_bringsTo 214 = .ok (.iload 8, 2) := by decide +kernel
theorem dX13_bringsTo_216 : decode cX13_bringsTo 216 = .ok (.iaload, 1) := by decide +kernel
theorem dX13_bringsTo_217 : decode cX13_bringsTo 217 = .ok (.if_icmp .le 17, 3) := by decide +kernel
theorem dX13_bringsTo_220 : decode cX13_bringsTo 220 = .ok (.aload_n 0, 1) := by decide +kernel
theorem dX13_bringsTo_221 : decode cX13_bringsTo 221 = .ok (.getfield 213, 3) := by decide +kernel
theorem dX13_bringsTo_224 : decode cX13_bringsTo 224 = .ok (.iload 8, 2) := by decide +kernel
theorem dX13_bringsTo_226 : decode cX13_bringsTo 226 = .ok (.aload_n 0, 1) := by decide +kernel
theorem dX13_bringsTo_227 : decode cX13_bringsTo 227 = .ok (.getfield 216, 3) := by decide +kernel
theorem dX13_bringsTo_230 : decode cX13_bringsTo 230 = .ok (.iload 8, 2) := by decide +kernel
theorem dX13_bringsTo_232 : decode cX13_bringsTo 232 = .ok (.iaload, 1) := by decide +kernel
theorem dX13_bringsTo_233 : decode cX13_bringsTo 233 = .ok (.iastore, 1) := by decide +kernel
theorem dX13_bringsTo_234 : decode cX13_bringsTo 234 = .ok (.aload_n 0, 1) := by decide +kernel
theorem dX13_bringsTo_235 : decode cX13_bringsTo 235 = .ok (.getfield 219, 3) := by decide +kernel
theorem dX13_bringsTo_238 : decode cX13_bringsTo 238 = .ok (.iload 8, 2) := by decide +kernel
theorem dX13_bringsTo_240 : decode cX13_bringsTo 240 = .ok (.aload_n 0, 1) := by decide +kernel
theorem dX13_bringsTo_241 : decode cX13_bringsTo 241 = .ok (.getfield 99, 3) := by decide +kernel
theorem dX13_bringsTo_244 : decode cX13_bringsTo 244 = .ok (.iload 8, 2) := by decide +kernel
theorem dX13_bringsTo_246 : decode cX13_bringsTo 246 = .ok (.iaload, 1) := by decide +kernel
theorem dX13_bringsTo_247 : decode cX13_bringsTo 247 = .ok (.aload_n 0, 1) := by decide +kernel
theorem dX13_bringsTo_248 : decode cX13_bringsTo 248 = .ok (.getfield 213, 3) := by decide +kernel
theorem dX13_bringsTo_251 : decode cX13_bringsTo 251 = .ok (.iload 8, 2) := by decide +kernel
theorem dX13_bringsTo_253 : decode cX13_bringsTo 253 = .ok (.iaload, 1) := by decide +kernel
theorem dX13_bringsTo_254 : decode cX13_bringsTo 254 = .ok (.if_icmp .ge 13, 3) := by decide +kernel
theorem dX13_bringsTo_257 : decode cX13_bringsTo 257 = .ok (.aload_n 0, 1) := by decide +kernel
theorem dX13_bringsTo_258 : decode cX13_bringsTo 258 = .ok (.getfield 213, 3) := by decide +kernel
theorem dX13_bringsTo_261 : decode cX13_bringsTo 261 = .ok (.iload 8, 2) := by decide +kernel
theorem dX13_bringsTo_263 : decode cX13_bringsTo 263 = .ok (.iaload, 1) := by decide +kernel
theorem dX13_bringsTo_264 : decode cX13_bringsTo 264 = .ok (.goto 37, 3) := by decide +kernel
theorem dX13_bringsTo_267 : decode cX13_bringsTo 267 = .ok (.aload_n 0, 1) := by decide +kernel
theorem dX13_bringsTo_268 : decode cX13_bringsTo 268 = .ok (.getfield 99, 3) := by decide +kernel
theorem dX13_bringsTo_271 : decode cX13_bringsTo 271 = .ok (.iload 8, 2) := by decide +kernel
theorem dX13_bringsTo_273 : decode cX13_bringsTo 273 = .ok (.iaload, 1) := by decide +kernel
theorem dX13_bringsTo_274 : decode cX13_bringsTo 274 = .ok (.aload_n 0, 1) := by decide +kernel
theorem dX13_bringsTo_275 : decode cX13_bringsTo 275 = .ok (.getfield 216, 3) := by decide +kernel
theorem dX13_bringsTo_278 : decode cX13_bringsTo 278 = .ok (.iload 8, 2) := by decide +kernel
theorem dX13_bringsTo_280 : decode cX13_bringsTo 280 = .ok (.iaload, 1) := by decide +kernel
theorem dX13_bringsTo_281 : decode cX13_bringsTo 281 = .ok (.if_icmp .le 13, 3) := by decide +kernel
theorem dX13_bringsTo_284 : decode cX13_bringsTo 284 = .ok (.aload_n 0, 1) := by decide +kernel
theorem dX13_bringsTo_285 : decode cX13_bringsTo 285 = .ok (.getfield 216, 3) := by decide +kernel
theorem dX13_bringsTo_288 : decode cX13_bringsTo 288 = .ok (.iload 8, 2) := by decide +kernel
theorem dX13_bringsTo_290 : decode cX13_bringsTo 290 = .ok (.iaload, 1) := by decide +kernel
theorem dX13_bringsTo_291 : decode cX13_bringsTo 291 = .ok (.goto 10, 3) := by decide +kernel
theorem dX13_bringsTo_294 : decode cX13_bringsTo 294 = .ok (.aload_n 0, 1) := by decide +kernel
theorem dX13_bringsTo_295 : decode cX13_bringsTo 295 = .ok (.getfield 99, 3) := by decide +kernel
theorem dX13_bringsTo_298 : decode cX13_bringsTo 298 = .ok (.iload 8, 2) := by decide +kernel
theorem dX13_bringsTo_300 : decode cX13_bringsTo 300 = .ok (.iaload, 1) := by decide +kernel
theorem dX13_bringsTo_301 : decode cX13_bringsTo 301 = .ok (.iastore, 1) := by decide +kernel
theorem dX13_bringsTo_302 : decode cX13_bringsTo 302 = .ok (.iload 4, 2) := by decide +kernel
theorem dX13_bringsTo_304 : decode cX13_bringsTo 304 = .ok (.aload_n 0, 1) := by decide +kernel
theorem dX13_bringsTo_305 : decode cX13_bringsTo 305 = .ok (.getfield 219, 3) := by decide +kernel
theorem dX13_bringsTo_308 : decode cX13_bringsTo 308 = .ok (.iload 8, 2) := by decide +kernel
theorem dX13_bringsTo_310 : decode cX13_bringsTo 310 = .ok (.iaload, 1) := by decide +kernel
theorem dX13_bringsTo_311 : decode cX13_bringsTo 311 = .ok (.iadd, 1) := by decide +kernel
theorem dX13_bringsTo_312 : decode cX13_bringsTo 312 = .ok (.istore 4, 2) := by decide +kernel
theorem dX13_bringsTo_314 : decode cX13_bringsTo 314 = .ok (.iload 5, 2) := by decide +kernel
theorem dX13_bringsTo_316 : decode cX13_bringsTo 316 = .ok (.aload_n 0, 1) := by decide +kernel
theorem dX13_bringsTo_317 : decode cX13_bringsTo 317 = .ok (.getfield 213, 3) := by decide +kernel
theorem dX13_bringsTo_320 : decode cX13_bringsTo 320 = .ok (.iload 8, 2) := by decide +kernel
theorem dX13_bringsTo_322 : decode cX13_bringsTo 322 = .ok (.iaload, 1) := by decide +kernel
theorem dX13_bringsTo_323 : decode cX13_bringsTo 323 = .ok (.iadd, 1) := by decide +kernel
theorem dX13_bringsTo_324 : decode cX13_bringsTo 324 = .ok (.istore 5, 2) := by decide +kernel
theorem dX13_bringsTo_326 : decode cX13_bringsTo 326 = .ok (.iload 6, 2) := by decide +kernel
theorem dX13_bringsTo_328 : decode cX13_bringsTo 328 = .ok (.aload_n 0, 1) := by decide +kernel
theorem dX13_bringsTo_329 : decode cX13_bringsTo 329 = .ok (.getfield 216, 3) := by decide +kernel
theorem dX13_bringsTo_332 : decode cX13_bringsTo 332 = .ok (.iload 8, 2) := by decide +kernel
theorem dX13_bringsTo_334 : decode cX13_bringsTo 334 = .ok (.iaload, 1) := by decide +kernel
theorem dX13_bringsTo_335 : decode cX13_bringsTo 335 = .ok (.iadd, 1) := by decide +kernel
theorem dX13_bringsTo_336 : decode cX13_bringsTo 336 = .ok (.istore 6, 2) := by decide +kernel
theorem dX13_bringsTo_338 : decode cX13_bringsTo 338 = .ok (.iinc 7 1, 3) := by decide +kernel
theorem dX13_bringsTo_341 : decode cX13_bringsTo 341 = .ok (.goto (-289), 3) := by decide +kernel
theorem dX13_bringsTo_344 : decode cX13_bringsTo 344 = .ok (.iconst (-1), 1) := by decide +kernel
theorem dX13_bringsTo_345 : decode cX13_bringsTo 345 = .ok (.istore 7, 2) := by decide +kernel
theorem dX13_bringsTo_347 : decode cX13_bringsTo 347 = .ok (.iconst 0, 1) := by decide +kernel
theorem dX13_bringsTo_348 : decode cX13_bringsTo 348 = .ok (.istore 8, 2) := by decide +kernel
theorem dX13_bringsTo_350 : decode cX13_bringsTo 350 = .ok (.iload 8, 2) := by decide +kernel
theorem dX13_bringsTo_352 : decode cX13_bringsTo 352 = .ok (.iload 6, 2) := by decide +kernel
theorem dX13_bringsTo_354 : decode cX13_bringsTo 354 = .ok (.if_icmp .gt 82, 3) := by decide +kernel
theorem dX13_bringsTo_357 : decode cX13_bringsTo 357 = .ok (.iload 8, 2) := by decide +kernel
theorem dX13_bringsTo_359 : decode cX13_bringsTo 359 = .ok (.iload 5, 2) := by decide +kernel
theorem dX13_bringsTo_361 : decode cX13_bringsTo 361 = .ok (.if_icmp .ge 6, 3) := by decide +kernel
theorem dX13_bringsTo_364 : decode cX13_bringsTo 364 = .ok (.goto 63, 3) := by decide +kernel
theorem dX13_bringsTo_367 : decode cX13_bringsTo 367 = .ok (.iload 8, 2) := by decide +kernel
theorem dX13_bringsTo_369 : decode cX13_bringsTo 369 = .ok (.iload 4, 2) := by decide +kernel
theorem dX13_bringsTo_371 : decode cX13_bringsTo 371 = .ok (.if_icmp .ge 11, 3) := by decide +kernel
theorem dX13_bringsTo_374 : decode cX13_bringsTo 374 = .ok (.iload 4, 2) := by decide +kernel
theorem dX13_bringsTo_376 : decode cX13_bringsTo 376 = .ok (.iload 8, 2) := by decide +kernel
theorem dX13_bringsTo_378 : decode cX13_bringsTo 378 = .ok (.isub, 1) := by decide +kernel
theorem dX13_bringsTo_379 : decode cX13_bringsTo 379 = .ok (.goto 8, 3) := by decide +kernel
theorem dX13_bringsTo_382 : decode cX13_bringsTo 382 = .ok (.iload 8, 2) := by decide +kernel
theorem dX13_bringsTo_384 : decode cX13_bringsTo 384 = .ok (.iload 4, 2) := by decide +kernel
theorem dX13_bringsTo_386 : decode cX13_bringsTo 386 = .ok (.isub, 1) := by decide +kernel
theorem dX13_bringsTo_387 : decode cX13_bringsTo 387 = .ok (.istore 9, 2) := by decide +kernel
theorem dX13_bringsTo_389 : decode cX13_bringsTo 389 = .ok (.iload 7, 2) := by decide +kernel
theorem dX13_bringsTo_391 : decode cX13_bringsTo 391 = .ok (.iconst (-1), 1) := by decide +kernel
theorem dX13_bringsTo_392 : decode cX13_bringsTo 392 = .ok (.if_icmp .eq 31, 3) := by decide +kernel
theorem dX13_bringsTo_395 : decode cX13_bringsTo 395 = .ok (.iload 9, 2) := by decide +kernel
theorem dX13_bringsTo_397 : decode cX13_bringsTo 397 = .ok (.iload 7, 2) := by decide +kernel
theorem dX13_bringsTo_399 : decode cX13_bringsTo 399 = .ok (.iload 4, 2) := by decide +kernel
theorem dX13_bringsTo_401 : decode cX13_bringsTo 401 = .ok (.if_icmp .ge 11, 3) := by decide +kernel
theorem dX13_bringsTo_404 : decode cX13_bringsTo 404 = .ok (.iload 4, 2) := by decide +kernel
theorem dX13_bringsTo_406 : decode cX13_bringsTo 406 = .ok (.iload 7, 2) := by decide +kernel
theorem dX13_bringsTo_408 : decode cX13_bringsTo 408 = .ok (.isub, 1) := by decide +kernel
theorem dX13_bringsTo_409 : decode cX13_bringsTo 409 = .ok (.goto 8, 3) := by decide +kernel
theorem dX13_bringsTo_412 : decode cX13_bringsTo 412 = .ok (.iload 7, 2) := by decide +kernel
theorem dX13_bringsTo_414 : decode cX13_bringsTo 414 = .ok (.iload 4, 2) := by decide +kernel
theorem dX13_bringsTo_416 : decode cX13_bringsTo 416 = .ok (.isub, 1) := by decide +kernel
theorem dX13_bringsTo_417 : decode cX13_bringsTo 417 = .ok (.if_icmp .lt 6, 3) := by decide +kernel
theorem dX13_bringsTo_420 : decode cX13_bringsTo 420 = .ok (.goto 7, 3) := by decide +kernel
theorem dX13_bringsTo_423 : decode cX13_bringsTo 423 = .ok (.iload 8, 2) := by decide +kernel
theorem dX13_bringsTo_425 : decode cX13_bringsTo 425 = .ok (.istore 7, 2) := by decide +kernel
theorem dX13_bringsTo_427 : decode cX13_bringsTo 427 = .ok (.iload 8, 2) := by decide +kernel
theorem dX13_bringsTo_429 : decode cX13_bringsTo 429 = .ok (.iload_n 2, 1) := by decide +kernel
theorem dX13_bringsTo_430 : decode cX13_bringsTo 430 = .ok (.iadd, 1) := by decide +kernel
theorem dX13_bringsTo_431 : decode cX13_bringsTo 431 = .ok (.istore 8, 2) := by decide +kernel
theorem dX13_bringsTo_433 : decode cX13_bringsTo 433 = .ok (.goto (-83), 3) := by decide +kernel
theorem dX13_bringsTo_436 : decode cX13_bringsTo 436 = .ok (.iload 7, 2) := by decide +kernel
theorem dX13_bringsTo_438 : decode cX13_bringsTo 438 = .ok (.iconst (-1), 1) := by decide +kernel
theorem dX13_bringsTo_439 : decode cX13_bringsTo 439 = .ok (.if_icmp .ne 5, 3) := by decide +kernel
theorem dX13_bringsTo_442 : decode cX13_bringsTo 442 = .ok (.iconst (-1), 1) := by decide +kernel
theorem dX13_bringsTo_443 : decode cX13_bringsTo 443 = .ok (.ireturn, 1) := by decide +kernel
theorem dX13_bringsTo_444 : decode cX13_bringsTo 444 = .ok (.iload 7, 2) := by decide +kernel
theorem dX13_bringsTo_446 : decode cX13_bringsTo 446 = .ok (.iload 4, 2) := by decide +kernel
theorem dX13_bringsTo_448 : decode cX13_bringsTo 448 = .ok (.isub, 1) := by decide +kernel
theorem dX13_bringsTo_449 : decode cX13_bringsTo 449 = .ok (.istore 8, 2) := by decide +kernel
theorem dX13_bringsTo_451 : decode cX13_bringsTo 451 = .ok (.iconst 0, 1) := by decide +kernel
theorem dX13_bringsTo_452 : decode cX13_bringsTo 452 = .ok (.istore 9, 2) := by decide +kernel
theorem dX13_bringsTo_454 : decode cX13_bringsTo 454 = .ok (.iload 9, 2) := by decide +kernel
theorem dX13_bringsTo_456 : decode cX13_bringsTo 456 = .ok (.iload_n 3, 1) := by decide +kernel
theorem dX13_bringsTo_457 : decode cX13_bringsTo 457 = .ok (.if_icmp .ge 197, 3) := by decide +kernel
theorem dX13_bringsTo_460 : decode cX13_bringsTo 460 = .ok (.aload_n 0, 1) := by decide +kernel
theorem dX13_bringsTo_461 : decode cX13_bringsTo 461 = .ok (.getfield 210, 3) := by decide +kernel
theorem dX13_bringsTo_464 : decode cX13_bringsTo 464 = .ok (.iload 9, 2) := by decide +kernel
theorem dX13_bringsTo_466 : decode cX13_bringsTo 466 = .ok (.iaload, 1) := by decide +kernel
theorem dX13_bringsTo_467 : decode cX13_bringsTo 467 = .ok (.istore 10, 2) := by decide +kernel
theorem dX13_bringsTo_469 : decode cX13_bringsTo 469 = .ok (.aload_n 0, 1) := by decide +kernel
theorem dX13_bringsTo_470 : decode cX13_bringsTo 470 = .ok (.getfield 108, 3) := by decide +kernel
theorem dX13_bringsTo_473 : decode cX13_bringsTo 473 = .ok (.iload 10, 2) := by decide +kernel
theorem dX13_bringsTo_475 : decode cX13_bringsTo 475 = .ok (.baload, 1) := by decide +kernel
theorem dX13_bringsTo_476 : decode cX13_bringsTo 476 = .ok (.ifCond .ne 172, 3) := by decide +kernel
theorem dX13_bringsTo_479 : decode cX13_bringsTo 479 = .ok (.aload_n 0, 1) := by decide +kernel
theorem dX13_bringsTo_480 : decode cX13_bringsTo 480 = .ok (.getfield 90, 3) := by decide +kernel
theorem dX13_bringsTo_483 : decode cX13_bringsTo 483 = .ok (.iload 10, 2) := by decide +kernel
theorem dX13_bringsTo_485 : decode cX13_bringsTo 485 = .ok (.iaload, 1) := by decide +kernel
theorem dX13_bringsTo_486 : decode cX13_bringsTo 486 = .ok (.ifCond .eq 6, 3) := by decide +kernel
theorem dX13_bringsTo_489 : decode cX13_bringsTo 489 = .ok (.goto 159, 3) := by decide +kernel
theorem dX13_bringsTo_492 : decode cX13_bringsTo 492 = .ok (.iload 8, 2) := by decide +kernel
theorem dX13_bringsTo_494 : decode cX13_bringsTo 494 = .ok (.ifCond .le 21, 3) := by decide +kernel
theorem dX13_bringsTo_497 : decode cX13_bringsTo 497 = .ok (.aload_n 0, 1) := by decide +kernel
theorem dX13_bringsTo_498 : decode cX13_bringsTo 498 = .ok (.getfield 216, 3) := by decide +kernel
theorem dX13_bringsTo_501 : decode cX13_bringsTo 501 = .ok (.iload 10, 2) := by decide +kernel
theorem dX13_bringsTo_503 : decode cX13_bringsTo 503 = .ok (.iaload, 1) := by decide +kernel
theorem dX13_bringsTo_504 : decode cX13_bringsTo 504 = .ok (.aload_n 0, 1) := by decide +kernel
theorem dX13_bringsTo_505 : decode cX13_bringsTo 505 = .ok (.getfield 219, 3) := by decide +kernel
theorem dX13_bringsTo_508 : decode cX13_bringsTo 508 = .ok (.iload 10, 2) := by decide +kernel
theorem dX13_bringsTo_510 : decode cX13_bringsTo 510 = .ok (.iaload, 1) := by decide +kernel
theorem dX13_bringsTo_511 : decode cX13_bringsTo 511 = .ok (.isub, 1) := by decide +kernel
theorem dX13_bringsTo_512 : decode cX13_bringsTo 512 = .ok (.goto 18, 3) := by decide +kernel
theorem dX13_bringsTo_515 : decode cX13_bringsTo 515 = .ok (.aload_n 0, 1) := by decide +kernel
theorem dX13_bringsTo_516 : decode cX13_bringsTo 516 = .ok (.getfield 213, 3) := by decide +kernel
theorem dX13_bringsTo_519 : decode cX13_bringsTo 519 = .ok (.iload 10, 2) := by decide +kernel
theorem dX13_bringsTo_521 : decode cX13_bringsTo 521 = .ok (.iaload, 1) := by decide +kernel
theorem dX13_bringsTo_522 : decode cX13_bringsTo 522 = .ok (.aload_n 0, 1) := by decide +kernel
theorem dX13_bringsTo_523 : decode cX13_bringsTo 523 = .ok (.getfield 219, 3) := by decide +kernel
theorem dX13_bringsTo_526 : decode cX13_bringsTo 526 = .ok (.iload 10, 2) := by decide +kernel
theorem dX13_bringsTo_528 : decode cX13_bringsTo 528 = .ok (.iaload, 1) := by decide +kernel
theorem dX13_bringsTo_529 : decode cX13_bringsTo 529 = .ok (.isub, 1) := by decide +kernel
theorem dX13_bringsTo_530 : decode cX13_bringsTo 530 = .ok (.istore 11, 2) := by decide +kernel
theorem dX13_bringsTo_532 : decode cX13_bringsTo 532 = .ok (.iload 8, 2) := by decide +kernel
theorem dX13_bringsTo_534 : decode cX13_bringsTo 534 = .ok (.ifCond .le 20, 3) := by decide +kernel
theorem dX13_bringsTo_537 : decode cX13_bringsTo 537 = .ok (.iload 8, 2) := by decide +kernel
theorem dX13_bringsTo_539 : decode cX13_bringsTo 539 = .ok (.iload 11, 2) := by decide +kernel
theorem dX13_bringsTo_541 : decode cX13_bringsTo 541 = .ok (.if_icmp .ge 8, 3) := by decide +kernel
theorem dX13_bringsTo_544 : decode cX13_bringsTo 544 = .ok (.iload 8, 2) := by decide +kernel
theorem dX13_bringsTo_546 : decode cX13_bringsTo 546 = .ok (.goto 22, 3) := by decide +kernel
theorem dX13_bringsTo_549 : decode cX13_bringsTo 549 = .ok (.iload 11, 2) := by decide +kernel
theorem dX13_bringsTo_551 : decode cX13_bringsTo 551 = .ok (.goto 17, 3) := by decide +kernel
theorem dX13_bringsTo_554 : decode cX13_bringsTo 554 = .ok (.iload 8, 2) := by decide +kernel
theorem dX13_bringsTo_556 : decode cX13_bringsTo 556 = .ok (.iload 11, 2) := by decide +kernel
theorem dX13_bringsTo_558 : decode cX13_bringsTo 558 = .ok (.if_icmp .le 8, 3) := by decide +kernel
theorem dX13_bringsTo_561 : decode cX13_bringsTo 561 = .ok (.iload 8, 2) := by decide +kernel
theorem dX13_bringsTo_563 : decode cX13_bringsTo 563 = .ok (.goto 5, 3) := by decide +kernel
theorem dX13_bringsTo_566 : decode cX13_bringsTo 566 = .ok (.iload 11, 2) := by decide +kernel
theorem dX13_bringsTo_568 : decode cX13_bringsTo 568 = .ok (.istore 12, 2) := by decide +kernel
theorem dX13_bringsTo_570 : decode cX13_bringsTo 570 = .ok (.aload_n 0, 1) := by decide +kernel
theorem dX13_bringsTo_571 : decode cX13_bringsTo 571 = .ok (.getfield 219, 3) := by decide +kernel
theorem dX13_bringsTo_574 : decode cX13_bringsTo 574 = .ok (.iload 10, 2) := by decide +kernel
theorem dX13_bringsTo_576 : decode cX13_bringsTo 576 = .ok (.dup2, 1) := by decide +kernel
theorem dX13_bringsTo_577 : decode cX13_bringsTo 577 = .ok (.iaload, 1) := by decide +kernel
theorem dX13_bringsTo_578 : decode cX13_bringsTo 578 = .ok (.iload 12, 2) := by decide +kernel
theorem dX13_bringsTo_580 : decode cX13_bringsTo 580 = .ok (.iadd, 1) := by decide +kernel
theorem dX13_bringsTo_581 : decode cX13_bringsTo 581 = .ok (.iastore, 1) := by decide +kernel
theorem dX13_bringsTo_582 : decode cX13_bringsTo 582 = .ok (.iload 8, 2) := by decide +kernel
theorem dX13_bringsTo_584 : decode cX13_bringsTo 584 = .ok (.iload 12, 2) := by decide +kernel
theorem dX13_bringsTo_586 : decode cX13_bringsTo 586 = .ok (.isub, 1) := by decide +kernel
theorem dX13_bringsTo_587 : decode cX13_bringsTo 587 = .ok (.istore 8, 2) := by decide +kernel
theorem dX13_bringsTo_589 : decode cX13_bringsTo 589 = .ok (.aload_n 0, 1) := by decide +kernel
theorem dX13_bringsTo_590 : decode cX13_bringsTo 590 = .ok (.dup, 1) := by decide +kernel
theorem dX13_bringsTo_591 : decode cX13_bringsTo 591 = .ok (.getfield 515, 3) := by decide +kernel
theorem dX13_bringsTo_594 : decode cX13_bringsTo 594 = .ok (.aload_n 0, 1) := by decide +kernel
theorem dX13_bringsTo_595 : decode cX13_bringsTo 595 = .ok (.getfield 219, 3) := by decide +kernel
theorem dX13_bringsTo_598 : decode cX13_bringsTo 598 = .ok (.iload 10, 2) := by decide +kernel
theorem dX13_bringsTo_600 : decode cX13_bringsTo 600 = .ok (.iaload, 1) := by decide +kernel
theorem dX13_bringsTo_601 : decode cX13_bringsTo 601 = .ok (.aload_n 0, 1) := by decide +kernel
theorem dX13_bringsTo_602 : decode cX13_bringsTo 602 = .ok (.getfield 99, 3) := by decide +kernel
theorem dX13_bringsTo_605 : decode cX13_bringsTo 605 = .ok (.iload 10, 2) := by decide +kernel
theorem dX13_bringsTo_607 : decode cX13_bringsTo 607 = .ok (.iaload, 1) := by decide +kernel
theorem dX13_bringsTo_608 : decode cX13_bringsTo 608 = .ok (.if_icmp .ge 21, 3) := by decide +kernel
theorem dX13_bringsTo_611 : decode cX13_bringsTo 611 = .ok (.aload_n 0, 1) := by decide +kernel
theorem dX13_bringsTo_612 : decode cX13_bringsTo 612 = .ok (.getfield 99, 3) := by decide +kernel
theorem dX13_bringsTo_615 : decode cX13_bringsTo 615 = .ok (.iload 10, 2) := by decide +kernel
theorem dX13_bringsTo_617 : decode cX13_bringsTo 617 = .ok (.iaload, 1) := by decide +kernel
theorem dX13_bringsTo_618 : decode cX13_bringsTo 618 = .ok (.aload_n 0, 1) := by decide +kernel
theorem dX13_bringsTo_619 : decode cX13_bringsTo 619 = .ok (.getfield 219, 3) := by decide +kernel
theorem dX13_bringsTo_622 : decode cX13_bringsTo 622 = .ok (.iload 10, 2) := by decide +kernel
theorem dX13_bringsTo_624 : decode cX13_bringsTo 624 = .ok (.iaload, 1) := by decide +kernel
theorem dX13_bringsTo_625 : decode cX13_bringsTo 625 = .ok (.isub, 1) := by decide +kernel
theorem dX13_bringsTo_626 : decode cX13_bringsTo 626 = .ok (.goto 18, 3) := by decide +kernel
theorem dX13_bringsTo_629 : decode cX13_bringsTo 629 = .ok (.aload_n 0, 1) := by decide +kernel
theorem dX13_bringsTo_630 : decode cX13_bringsTo 630 = .ok (.getfield 219, 3) := by decide +kernel
theorem dX13_bringsTo_633 : decode cX13_bringsTo 633 = .ok (.iload 10, 2) := by decide +kernel
theorem dX13_bringsTo_635 : decode cX13_bringsTo 635 = .ok (.iaload, 1) := by decide +kernel
theorem dX13_bringsTo_636 : decode cX13_bringsTo 636 = .ok (.aload_n 0, 1) := by decide +kernel
theorem dX13_bringsTo_637 : decode cX13_bringsTo 637 = .ok (.getfield 99, 3) := by decide +kernel
theorem dX13_bringsTo_640 : decode cX13_bringsTo 640 = .ok (.iload 10, 2) := by decide +kernel
theorem dX13_bringsTo_642 : decode cX13_bringsTo 642 = .ok (.iaload, 1) := by decide +kernel
theorem dX13_bringsTo_643 : decode cX13_bringsTo 643 = .ok (.isub, 1) := by decide +kernel
theorem dX13_bringsTo_644 : decode cX13_bringsTo 644 = .ok (.iadd, 1) := by decide +kernel
theorem dX13_bringsTo_645 : decode cX13_bringsTo 645 = .ok (.putfield 515, 3) := by decide +kernel
theorem dX13_bringsTo_648 : decode cX13_bringsTo 648 = .ok (.iinc 9 1, 3) := by decide +kernel
theorem dX13_bringsTo_651 : decode cX13_bringsTo 651 = .ok (.goto (-197), 3) := by decide +kernel
theorem dX13_bringsTo_654 : decode cX13_bringsTo 654 = .ok (.iload_n 3, 1) := by decide +kernel
theorem dX13_bringsTo_655 : decode cX13_bringsTo 655 = .ok (.ireturn, 1) := by decide +kernel
theorem dX13_lengths_0 : decode cX13_lengths 0 = .ok (.aload_n 0, 1) := by decide +kernel
theorem dX13_lengths_1 : decode cX13_lengths 1 = .ok (.iload_n 1, 1) := by decide +kernel
theorem dX13_lengths_2 : decode cX13_lengths 2 = .ok (.iload_n 2, 1) := by decide +kernel
theorem dX13_lengths_3 : decode cX13_lengths 3 = .ok (.invokevirtual 521, 3) := by decide +kernel
theorem dX13_lengths_6 : decode cX13_lengths 6 = .ok (.iconst (-1), 1) := by decide +kernel
theorem dX13_lengths_7 : decode cX13_lengths 7 = .ok (.if_icmp .ne 7, 3) := by decide +kernel
theorem dX13_lengths_10 : decode cX13_lengths 10 = .ok (.iconst (-1), 1) := by decide +kernel
theorem dX13_lengths_11 : decode cX13_lengths 11 = .ok (.goto 7, 3) := by decide +kernel
theorem dX13_lengths_14 : decode cX13_lengths 14 = .ok (.aload_n 0, 1) := by decide +kernel
theorem dX13_lengths_15 : decode cX13_lengths 15 = .ok (.getfield 515, 3) := by decide +kernel
theorem dX13_lengths_18 : decode cX13_lengths 18 = .ok (.ireturn, 1) := by decide +kernel
theorem dX13_length_0 : decode cX13_length 0 = .ok (.aload_n 0, 1) := by decide +kernel
theorem dX13_length_1 : decode cX13_length 1 = .ok (.iload_n 1, 1) := by decide +kernel
theorem dX13_length_2 : decode cX13_length 2 = .ok (.invokevirtual 467, 3) := by decide +kernel
theorem dX13_length_5 : decode cX13_length 5 = .ok (.ifCond .eq 32, 3) := by decide +kernel
theorem dX13_length_8 : decode cX13_length 8 = .ok (.aload_n 0, 1) := by decide +kernel
theorem dX13_length_9 : decode cX13_length 9 = .ok (.getfield 108, 3) := by decide +kernel
theorem dX13_length_12 : decode cX13_length 12 = .ok (.iload_n 1, 1) := by decide +kernel
theorem dX13_length_13 : decode cX13_length 13 = .ok (.baload, 1) := by decide +kernel
theorem dX13_length_14 : decode cX13_length 14 = .ok (.ifCond .ne 23, 3) := by decide +kernel
theorem dX13_length_17 : decode cX13_length 17 = .ok (.aload_n 0, 1) := by decide +kernel
theorem dX13_length_18 : decode cX13_length 18 = .ok (.getfield 114, 3) := by decide +kernel
theorem dX13_length_21 : decode cX13_length 21 = .ok (.iload_n 1, 1) := by decide +kernel
theorem dX13_length_22 : decode cX13_length 22 = .ok (.iaload, 1) := by decide +kernel
theorem dX13_length_23 : decode cX13_length 23 = .ok (.iconst (-1), 1) := by decide +kernel
theorem dX13_length_24 : decode cX13_length 24 = .ok (.if_icmp .ne 13, 3) := by decide +kernel
theorem dX13_length_27 : decode cX13_length 27 = .ok (.aload_n 0, 1) := by decide +kernel
theorem dX13_length_28 : decode cX13_length 28 = .ok (.iload_n 1, 1) := by decide +kernel
theorem dX13_length_29 : decode cX13_length 29 = .ok (.invokevirtual 433, 3) := by decide +kernel
theorem dX13_length_32 : decode cX13_length 32 = .ok (.bipush 6, 2) := by decide +kernel
theorem dX13_length_34 : decode cX13_length 34 = .ok (.if_icmp .ne 5, 3) := by decide +kernel
theorem dX13_length_37 : decode cX13_length 37 = .ok (.iconst (-1), 1) := by decide +kernel
theorem dX13_length_38 : decode cX13_length 38 = .ok (.ireturn, 1) := by decide +kernel
theorem dX13_length_39 : decode cX13_length 39 = .ok (.aload_n 0, 1) := by decide +kernel
theorem dX13_length_40 : decode cX13_length 40 = .ok (.aload_n 0, 1) := by decide +kernel
theorem dX13_length_41 : decode cX13_length 41 = .ok (.iload_n 1, 1) := by decide +kernel
theorem dX13_length_42 : decode cX13_length 42 = .ok (.invokevirtual 433, 3) := by decide +kernel
theorem dX13_length_45 : decode cX13_length 45 = .ok (.iload_n 2, 1) := by decide +kernel
theorem dX13_length_46 : decode cX13_length 46 = .ok (.invokevirtual 521, 3) := by decide +kernel
theorem dX13_length_49 : decode cX13_length 49 = .ok (.iconst (-1), 1) := by decide +kernel
theorem dX13_length_50 : decode cX13_length 50 = .ok (.if_icmp .ne 7, 3) := by decide +kernel
theorem dX13_length_53 : decode cX13_length 53 = .ok (.iconst (-1), 1) := by decide +kernel
theorem dX13_length_54 : decode cX13_length 54 = .ok (.goto 9, 3) := by decide +kernel
theorem dX13_length_57 : decode cX13_length 57 = .ok (.aload_n 0, 1) := by decide +kernel
theorem dX13_length_58 : decode cX13_length 58 = .ok (.getfield 219, 3) := by decide +kernel
theorem dX13_length_61 : decode cX13_length 61 = .ok (.iload_n 1, 1) := by decide +kernel
theorem dX13_length_62 : decode cX13_length 62 = .ok (.iaload, 1) := by decide +kernel
theorem dX13_length_63 : decode cX13_length 63 = .ok (.ireturn, 1) := by decide +kernel
theorem dX13_better_0 : decode cX13_better 0 = .ok (.aload_n 0, 1) := by decide +kernel
theorem dX13_better_1 : decode cX13_better 1 = .ok (.getfield 240, 3) := by decide +kernel
theorem dX13_better_4 : decode cX13_better 4 = .ok (.iload_n 2, 1) := by decide +kernel
theorem dX13_better_5 : decode cX13_better 5 = .ok (.iaload, 1) := by decide +kernel
theorem dX13_better_6 : decode cX13_better 6 = .ok (.iconst 1, 1) := by decide +kernel
theorem dX13_better_7 : decode cX13_better 7 = .ok (.iadd, 1) := by decide +kernel
theorem dX13_better_8 : decode cX13_better 8 = .ok (.aload_n 0, 1) := by decide +kernel
theorem dX13_better_9 : decode cX13_better 9 = .ok (.getfield 240, 3) := by decide +kernel
theorem dX13_better_12 : decode cX13_better 12 = .ok (.iload_n 1, 1) := by decide +kernel
theorem dX13_better_13 : decode cX13_better 13 = .ok (.iaload, 1) := by decide +kernel
theorem dX13_better_14 : decode cX13_better 14 = .ok (.if_icmp .gt 35, 3) := by decide +kernel
theorem dX13_better_17 : decode cX13_better 17 = .ok (.aload_n 0, 1) := by decide +kernel
theorem dX13_better_18 : decode cX13_better 18 = .ok (.getfield 240, 3) := by decide +kernel
theorem dX13_better_21 : decode cX13_better 21 = .ok (.iload_n 2, 1) := by decide +kernel
theorem dX13_better_22 : decode cX13_better 22 = .ok (.iaload, 1) := by decide +kernel
theorem dX13_better_23 : decode cX13_better 23 = .ok (.iconst 1, 1) := by decide +kernel
theorem dX13_better_24 : decode cX13_better 24 = .ok (.iadd, 1) := by decide +kernel
theorem dX13_better_25 : decode cX13_better 25 = .ok (.aload_n 0, 1) := by decide +kernel
theorem dX13_better_26 : decode cX13_better 26 = .ok (.getfield 240, 3) := by decide +kernel
theorem dX13_better_29 : decode cX13_better 29 = .ok (.iload_n 1, 1) := by decide +kernel
theorem dX13_better_30 : decode cX13_better 30 = .ok (.iaload, 1) := by decide +kernel
theorem dX13_better_31 : decode cX13_better 31 = .ok (.if_icmp .ne 19, 3) := by decide +kernel
theorem dX13_better_34 : decode cX13_better 34 = .ok (.aload_n 0, 1) := by decide +kernel
theorem dX13_better_35 : decode cX13_better 35 = .ok (.getfield 243, 3) := by decide +kernel
theorem dX13_better_38 : decode cX13_better 38 = .ok (.iload_n 2, 1) := by decide +kernel
theorem dX13_better_39 : decode cX13_better 39 = .ok (.iaload, 1) := by decide +kernel
theorem dX13_better_40 : decode cX13_better 40 = .ok (.aload_n 0, 1) := by decide +kernel
theorem dX13_better_41 : decode cX13_better 41 = .ok (.getfield 243, 3) := by decide +kernel
theorem dX13_better_44 : decode cX13_better 44 = .ok (.iload_n 1, 1) := by decide +kernel
theorem dX13_better_45 : decode cX13_better 45 = .ok (.iaload, 1) := by decide +kernel
theorem dX13_better_46 : decode cX13_better 46 = .ok (.if_icmp .gt 4, 3) := by decide +kernel
theorem dX13_better_49 : decode cX13_better 49 = .ok (.return_, 1) := by decide +kernel
theorem dX13_better_50 : decode cX13_better 50 = .ok (.aload_n 0, 1) := by decide +kernel
theorem dX13_better_51 : decode cX13_better 51 = .ok (.getfield 240, 3) := by decide +kernel
theorem dX13_better_54 : decode cX13_better 54 = .ok (.iload_n 1, 1) := by decide +kernel
theorem dX13_better_55 : decode cX13_better 55 = .ok (.aload_n 0, 1) := by decide +kernel
theorem dX13_better_56 : decode cX13_better 56 = .ok (.getfield 240, 3) := by decide +kernel
theorem dX13_better_59 : decode cX13_better 59 = .ok (.iload_n 2, 1) := by decide +kernel
theorem dX13_better_60 : decode cX13_better 60 = .ok (.iaload, 1) := by decide +kernel
theorem dX13_better_61 : decode cX13_better 61 = .ok (.iconst 1, 1) := by decide +kernel
theorem dX13_better_62 : decode cX13_better 62 = .ok (.iadd, 1) := by decide +kernel
theorem dX13_better_63 : decode cX13_better 63 = .ok (.iastore, 1) := by decide +kernel
theorem dX13_better_64 : decode cX13_better 64 = .ok (.aload_n 0, 1) := by decide +kernel
theorem dX13_better_65 : decode cX13_better 65 = .ok (.getfield 243, 3) := by decide +kernel
theorem dX13_better_68 : decode cX13_better 68 = .ok (.iload_n 1, 1) := by decide +kernel
theorem dX13_better_69 : decode cX13_better 69 = .ok (.aload_n 0, 1) := by decide +kernel
theorem dX13_better_70 : decode cX13_better 70 = .ok (.getfield 243, 3) := by decide +kernel
theorem dX13_better_73 : decode cX13_better 73 = .ok (.iload_n 2, 1) := by decide +kernel
theorem dX13_better_74 : decode cX13_better 74 = .ok (.iaload, 1) := by decide +kernel
theorem dX13_better_75 : decode cX13_better 75 = .ok (.iastore, 1) := by decide +kernel
theorem dX13_better_76 : decode cX13_better 76 = .ok (.return_, 1) := by decide +kernel
theorem dX13_is_0 : decode cX13_is 0 = .ok (.aload_n 0, 1) := by decide +kernel
theorem dX13_is_1 : decode cX13_is 1 = .ok (.iload_n 1, 1) := by decide +kernel
theorem dX13_is_2 : decode cX13_is 2 = .ok (.invokevirtual 421, 3) := by decide +kernel
theorem dX13_is_5 : decode cX13_is 5 = .ok (.ifCond .ne 5, 3) := by decide +kernel
theorem dX13_is_8 : decode cX13_is 8 = .ok (.iconst (-1), 1) := by decide +kernel
theorem dX13_is_9 : decode cX13_is 9 = .ok (.ireturn, 1) := by decide +kernel
theorem dX13_is_10 : decode cX13_is 10 = .ok (.iload_n 1, 1) := by decide +kernel
theorem dX13_is_11 : decode cX13_is 11 = .ok (.istore_n 3, 1) := by decide +kernel
theorem dX13_is_12 : decode cX13_is 12 = .ok (.aload_n 0, 1) := by decide +kernel
theorem dX13_is_13 : decode cX13_is 13 = .ok (.getfield 90, 3) := by decide +kernel
theorem dX13_is_16 : decode cX13_is 16 = .ok (.iload_n 3, 1) := by decide +kernel
theorem dX13_is_17 : decode cX13_is 17 = .ok (.iaload, 1) := by decide +kernel
theorem dX13_is_18 : decode cX13_is 18 = .ok (.ifCond .ne 7, 3) := by decide +kernel
theorem dX13_is_21 : decode cX13_is 21 = .ok (.iconst 1, 1) := by decide +kernel
theorem dX13_is_22 : decode cX13_is 22 = .ok (.goto 4, 3) := by decide +kernel
theorem dX13_is_25 : decode cX13_is 25 = .ok (.iconst 0, 1) := by decide +kernel
theorem dX13_is_26 : decode cX13_is 26 = .ok (.istore 4, 2) := by decide +kernel
theorem dX13_is_28 : decode cX13_is 28 = .ok (.iload_n 2, 1) := by decide +kernel
theorem dX13_is_29 : decode cX13_is 29 = .ok (.tableswitch 223 0 9 #[55, 62, 78, 94, 110, 116, 132, 155, 184, 207], 55) := by decide +kernel
theorem dX13_is_84 : decode cX13_is 84 = .ok (.aload_n 0, 1) := by decide +kernel
theorem dX13_is_85 : decode cX13_is 85 = .ok (.getfield 90, 3) := by decide +kernel
theorem dX13_is_88 : decode cX13_is 88 = .ok (.iload_n 3, 1) := by decide +kernel
theorem dX13_is_89 : decode cX13_is 89 = .ok (.iaload, 1) := by decide +kernel
theorem dX13_is_90 : decode cX13_is 90 = .ok (.ireturn, 1) := by decide +kernel
theorem dX13_is_91 : decode cX13_is 91 = .ok (.iload 4, 2) := by decide +kernel
theorem dX13_is_93 : decode cX13_is 93 = .ok (.ifCond .eq 12, 3) := by decide +kernel
theorem dX13_is_96 : decode cX13_is 96 = .ok (.aload_n 0, 1) := by decide +kernel
theorem dX13_is_97 : decode cX13_is 97 = .ok (.getfield 93, 3) := by decide +kernel
theorem dX13_is_100 : decode cX13_is 100 = .ok (.iload_n 3, 1) := by decide +kernel
theorem dX13_is_101 : decode cX13_is 101 = .ok (.iaload, 1) := by decide +kernel
theorem dX13_is_102 : decode cX13_is 102 = .ok (.goto 4, 3) := by decide +kernel
theorem dX13_is_105 : decode cX13_is 105 = .ok (.iconst (-1), 1) := by decide +kernel
theorem dX13_is_106 : decode cX13_is 106 = .ok (.ireturn, 1) := by decide +kernel
theorem dX13_is_107 : decode cX13_is 107 = .ok (.iload 4, 2) := by decide +kernel
theorem dX13_is_109 : decode cX13_is 109 = .ok (.ifCond .eq 12, 3) := by decide +kernel
theorem dX13_is_112 : decode cX13_is 112 = .ok (.aload_n 0, 1) := by decide +kernel
theorem dX13_is_113 : decode cX13_is 113 = .ok (.getfield 96, 3) := by decide +kernel
theorem dX13_is_116 : decode cX13_is 116 = .ok (.iload_n 3, 1) := by decide +kernel
theorem dX13_is_117 : decode cX13_is 117 = .ok (.iaload, 1) := by decide +kernel
theorem dX13_is_118 : decode cX13_is 118 = .ok (.goto 4, 3) := by decide +kernel
theorem dX13_is_121 : decode cX13_is 121 = .ok (.iconst (-1), 1) := by decide +kernel
theorem dX13_is_122 : decode cX13_is 122 = .ok (.ireturn, 1) := by decide +kernel
theorem dX13_is_123 : decode cX13_is 123 = .ok (.iload 4, 2) := by decide +kernel
theorem dX13_is_125 : decode cX13_is 125 = .ok (.ifCond .eq 12, 3) := by decide +kernel
theorem dX13_is_128 : decode cX13_is 128 = .ok (.aload_n 0, 1) := by decide +kernel
theorem dX13_is_129 : decode cX13_is 129 = .ok (.getfield 99, 3) := by decide +kernel
theorem dX13_is_132 : decode cX13_is 132 = .ok (.iload_n 3, 1) := by decide +kernel
theorem dX13_is_133 : decode cX13_is 133 = .ok (.iaload, 1) := by decide +kernel
theorem dX13_is_134 : decode cX13_is 134 = .ok (.goto 4, 3) := by decide +kernel
theorem dX13_is_137 : decode cX13_is 137 = .ok (.iconst (-1), 1) := by decide +kernel
theorem dX13_is_138 : decode cX13_is 138 = .ok (.ireturn, 1) := by decide +kernel
theorem dX13_is_139 : decode cX13_is 139 = .ok (.aload_n 0, 1) := by decide +kernel
theorem dX13_is_140 : decode cX13_is 140 = .ok (.iload_n 3, 1) := by decide +kernel
theorem dX13_is_141 : decode cX13_is 141 = .ok (.invokevirtual 455, 3) := by decide +kernel
theorem dX13_is_144 : decode cX13_is 144 = .ok (.ireturn, 1) := by decide +kernel
theorem dX13_is_145 : decode cX13_is 145 = .ok (.iload 4, 2) := by decide +kernel
theorem dX13_is_147 : decode cX13_is 147 = .ok (.ifCond .eq 12, 3) := by decide +kernel
theorem dX13_is_150 : decode cX13_is 150 = .ok (.aload_n 0, 1) := by decide +kernel
theorem dX13_is_151 : decode cX13_is 151 = .ok (.getfield 105, 3) := by decide +kernel
theorem dX13_is_154 : decode cX13_is 154 = .ok (.iload_n 3, 1) := by decide +kernel
theorem dX13_is_155 : decode cX13_is 155 = .ok (.iaload, 1) := by decide +kernel
theorem dX13_is_156 : decode cX13_is 156 = .ok (.goto 4, 3) := by decide +kernel
theorem dX13_is_159 : decode cX13_is 159 = .ok (.iconst (-1), 1) := by decide +kernel
theorem dX13_is_160 : decode cX13_is 160 = .ok (.ireturn, 1) := by decide +kernel
theorem dX13_is_161 : decode cX13_is 161 = .ok (.iload 4, 2) := by decide +kernel
theorem dX13_is_163 : decode cX13_is 163 = .ok (.ifCond .eq 19, 3) := by decide +kernel
theorem dX13_is_166 : decode cX13_is 166 = .ok (.aload_n 0, 1) := by decide +kernel
theorem dX13_is_167 : decode cX13_is 167 = .ok (.iload_n 3, 1) := by decide +kernel
theorem dX13_is_168 : decode cX13_is 168 = .ok (.invokevirtual 458, 3) := by decide +kernel
theorem dX13_is_171 : decode cX13_is 171 = .ok (.ifCond .eq 7, 3) := by decide +kernel
theorem dX13_is_174 : decode cX13_is 174 = .ok (.iconst 1, 1) := by decide +kernel
theorem dX13_is_175 : decode cX13_is 175 = .ok (.goto 8, 3) := by decide +kernel
theorem dX13_is_178 : decode cX13_is 178 = .ok (.iconst 0, 1) := by decide +kernel
theorem dX13_is_179 : decode cX13_is 179 = .ok (.goto 4, 3) := by decide +kernel
theorem dX13_is_182 : decode cX13_is 182 = .ok (.iconst (-1), 1) := by decide +kernel
theorem dX13_is_183 : decode cX13_is 183 = .ok (.ireturn, 1) := by decide +kernel
theorem dX13_is_184 : decode cX13_is 184 = .ok (.aload_n 0, 1) := by decide +kernel
theorem dX13_is_185 : decode cX13_is 185 = .ok (.getfield 108, 3) := by decide +kernel
theorem dX13_is_188 : decode cX13_is 188 = .ok (.iload_n 3, 1) := by decide +kernel
theorem dX13_is_189 : decode cX13_is 189 = .ok (.baload, 1) := by decide +kernel
theorem dX13_is_190 : decode cX13_is 190 = .ok (.ifCond .eq 7, 3) := by decide +kernel
theorem dX13_is_193 : decode cX13_is 193 = .ok (.iconst 1, 1) := by decide +kernel
theorem dX13_is_194 : decode cX13_is 194 = .ok (.goto 18, 3) := by decide +kernel
theorem dX13_is_197 : decode cX13_is 197 = .ok (.aload_n 0, 1) := by decide +kernel
theorem dX13_is_198 : decode cX13_is 198 = .ok (.iload_n 3, 1) := by decide +kernel
theorem dX13_is_199 : decode cX13_is 199 = .ok (.invokevirtual 433, 3) := by decide +kernel
theorem dX13_is_202 : decode cX13_is 202 = .ok (.bipush 6, 2) := by decide +kernel
theorem dX13_is_204 : decode cX13_is 204 = .ok (.if_icmp .ne 7, 3) := by decide +kernel
theorem dX13_is_207 : decode cX13_is 207 = .ok (.iconst 2, 1) := by decide +kernel
theorem dX13_is_208 : decode cX13_is 208 = .ok (.goto 4, 3) := by decide +kernel
theorem dX13_is_211 : decode cX13_is 211 = .ok (.iconst 0, 1) := by decide +kernel
theorem dX13_is_212 : decode cX13_is 212 = .ok (.ireturn, 1) := by decide +kernel
theorem dX13_is_213 : decode cX13_is 213 = .ok (.iload 4, 2) := by decide +kernel
theorem dX13_is_215 : decode cX13_is 215 = .ok (.ifCond .eq 19, 3) := by decide +kernel
theorem dX13_is_218 : decode cX13_is 218 = .ok (.aload_n 0, 1) := by decide +kernel
theorem dX13_is_219 : decode cX13_is 219 = .ok (.iload_n 3, 1) := by decide +kernel
theorem dX13_is_220 : decode cX13_is 220 = .ok (.invokevirtual 485, 3) := by decide +kernel
theorem dX13_is_223 : decode cX13_is 223 = .ok (.ifCond .eq 7, 3) := by decide +kernel
theorem dX13_is_226 : decode cX13_is 226 = .ok (.iconst 1, 1) := by decide +kernel
theorem dX13_is_227 : decode cX13_is 227 = .ok (.goto 8, 3) := by decide +kernel
theorem dX13_is_230 : decode cX13_is 230 = .ok (.iconst 0, 1) := by decide +kernel
theorem dX13_is_231 : decode cX13_is 231 = .ok (.goto 4, 3) := by decide +kernel
theorem dX13_is_234 : decode cX13_is 234 = .ok (.iconst (-1), 1) := by decide +kernel
theorem dX13_is_235 : decode cX13_is 235 = .ok (.ireturn, 1) := by decide +kernel
theorem dX13_is_236 : decode cX13_is 236 = .ok (.aload_n 0, 1) := by decide +kernel
theorem dX13_is_237 : decode cX13_is 237 = .ok (.getfield 114, 3) := by decide +kernel
theorem dX13_is_240 : decode cX13_is 240 = .ok (.iload_n 3, 1) := by decide +kernel
theorem dX13_is_241 : decode cX13_is 241 = .ok (.iaload, 1) := by decide +kernel
theorem dX13_is_242 : decode cX13_is 242 = .ok (.iconst (-1), 1) := by decide +kernel
theorem dX13_is_243 : decode cX13_is 243 = .ok (.if_icmp .eq 7, 3) := by decide +kernel
theorem dX13_is_246 : decode cX13_is 246 = .ok (.iconst 1, 1) := by decide +kernel
theorem dX13_is_247 : decode cX13_is 247 = .ok (.goto 4, 3) := by decide +kernel
theorem dX13_is_250 : decode cX13_is 250 = .ok (.iconst 0, 1) := by decide +kernel
theorem dX13_is_251 : decode cX13_is 251 = .ok (.ireturn, 1) := by decide +kernel
theorem dX13_is_252 : decode cX13_is 252 = .ok (.iconst (-1), 1) := by decide +kernel
theorem dX13_is_253 : decode cX13_is 253 = .ok (.ireturn, 1) := by decide +kernel
