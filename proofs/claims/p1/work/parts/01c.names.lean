theorem dX8_run_85 : decode cX8_run 85 = .ok (.iload_n 3, 1) := by decide +kernel
theorem dX8_run_86 : decode cX8_run 86 = .ok (.iload 5, 2) := by decide +kernel
theorem dX8_run_88 : decode cX8_run 88 = .ok (.iastore, 1) := by decide +kernel
theorem dX8_run_89 : decode cX8_run 89 = .ok (.iinc 3 1, 3) := by decide +kernel
theorem dX8_run_92 : decode cX8_run 92 = .ok (.goto 113, 3) := by decide +kernel
theorem dX8_run_95 : decode cX8_run 95 = .ok (.iload 6, 2) := by decide +kernel
theorem dX8_run_97 : decode cX8_run 97 = .ok (.ifCond .lt 35, 3) := by decide +kernel
theorem dX8_run_100 : decode cX8_run 100 = .ok (.iload 6, 2) := by decide +kernel
theorem dX8_run_102 : decode cX8_run 102 = .ok (.bipush 9, 2) := by decide +kernel
theorem dX8_run_104 : decode cX8_run 104 = .ok (.if_icmp .ge 28, 3) := by decide +kernel
theorem dX8_run_107 : decode cX8_run 107 = .ok (.iload_n 3, 1) := by decide +kernel
theorem dX8_run_108 : decode cX8_run 108 = .ok (.bipush 64, 2) := by decide +kernel
theorem dX8_run_110 : decode cX8_run 110 = .ok (.if_icmp .ge 22, 3) := by decide +kernel
theorem dX8_run_113 : decode cX8_run 113 = .ok (.aload_n 0, 1) := by decide +kernel
theorem dX8_run_114 : decode cX8_run 114 = .ok (.getfield 30, 3) := by decide +kernel
theorem dX8_run_117 : decode cX8_run 117 = .ok (.iload_n 3, 1) := by decide +kernel
theorem dX8_run_118 : decode cX8_run 118 = .ok (.aload_n 0, 1) := by decide +kernel
theorem dX8_run_119 : decode cX8_run 119 = .ok (.getfield 27, 3) := by decide +kernel
theorem dX8_run_122 : decode cX8_run 122 = .ok (.iload 6, 2) := by decide +kernel
theorem dX8_run_124 : decode cX8_run 124 = .ok (.iaload, 1) := by decide +kernel
theorem dX8_run_125 : decode cX8_run 125 = .ok (.iastore, 1) := by decide +kernel
theorem dX8_run_126 : decode cX8_run 126 = .ok (.iinc 3 1, 3) := by decide +kernel
theorem dX8_run_129 : decode cX8_run 129 = .ok (.goto 76, 3) := by decide +kernel
theorem dX8_run_132 : decode cX8_run 132 = .ok (.iload 5, 2) := by decide +kernel
theorem dX8_run_134 : decode cX8_run 134 = .ok (.bipush (-20), 2) := by decide +kernel
theorem dX8_run_136 : decode cX8_run 136 = .ok (.if_icmp .ne 34, 3) := by decide +kernel
theorem dX8_run_139 : decode cX8_run 139 = .ok (.iload_n 3, 1) := by decide +kernel
theorem dX8_run_140 : decode cX8_run 140 = .ok (.ifCond .le 30, 3) := by decide +kernel
theorem dX8_run_143 : decode cX8_run 143 = .ok (.aload_n 0, 1) := by decide +kernel
theorem dX8_run_144 : decode cX8_run 144 = .ok (.getfield 30, 3) := by decide +kernel
theorem dX8_run_147 : decode cX8_run 147 = .ok (.iload_n 3, 1) := by decide +kernel
theorem dX8_run_148 : decode cX8_run 148 = .ok (.iconst 1, 1) := by decide +kernel
theorem dX8_run_149 : decode cX8_run 149 = .ok (.isub, 1) := by decide +kernel
theorem dX8_run_150 : decode cX8_run 150 = .ok (.aload_n 0, 1) := by decide +kernel
theorem dX8_run_151 : decode cX8_run 151 = .ok (.getfield 30, 3) := by decide +kernel
theorem dX8_run_154 : decode cX8_run 154 = .ok (.iload_n 3, 1) := by decide +kernel
theorem dX8_run_155 : decode cX8_run 155 = .ok (.iconst 1, 1) := by decide +kernel
theorem dX8_run_156 : decode cX8_run 156 = .ok (.isub, 1) := by decide +kernel
theorem dX8_run_157 : decode cX8_run 157 = .ok (.iaload, 1) := by decide +kernel
theorem dX8_run_158 : decode cX8_run 158 = .ok (.ifCond .ne 7, 3) := by decide +kernel
theorem dX8_run_161 : decode cX8_run 161 = .ok (.iconst 1, 1) := by decide +kernel
theorem dX8_run_162 : decode cX8_run 162 = .ok (.goto 4, 3) := by decide +kernel
theorem dX8_run_165 : decode cX8_run 165 = .ok (.iconst 0, 1) := by decide +kernel
theorem dX8_run_166 : decode cX8_run 166 = .ok (.iastore, 1) := by decide +kernel
theorem dX8_run_167 : decode cX8_run 167 = .ok (.goto 38, 3) := by decide +kernel
theorem dX8_run_170 : decode cX8_run 170 = .ok (.iload_n 3, 1) := by decide +kernel
theorem dX8_run_171 : decode cX8_run 171 = .ok (.iconst 1, 1) := by decide +kernel
theorem dX8_run_172 : decode cX8_run 172 = .ok (.if_icmp .le 33, 3) := by decide +kernel
theorem dX8_run_175 : decode cX8_run 175 = .ok (.iinc 3 (-1), 3) := by decide +kernel
theorem dX8_run_178 : decode cX8_run 178 = .ok (.aload_n 0, 1) := by decide +kernel
theorem dX8_run_179 : decode cX8_run 179 = .ok (.getfield 30, 3) := by decide +kernel
theorem dX8_run_182 : decode cX8_run 182 = .ok (.iload_n 3, 1) := by decide +kernel
theorem dX8_run_183 : decode cX8_run 183 = .ok (.iconst 1, 1) := by decide +kernel
theorem dX8_run_184 : decode cX8_run 184 = .ok (.isub, 1) := by decide +kernel
theorem dX8_run_185 : decode cX8_run 185 = .ok (.iload 5, 2) := by decide +kernel
theorem dX8_run_187 : decode cX8_run 187 = .ok (.aload_n 0, 1) := by decide +kernel
theorem dX8_run_188 : decode cX8_run 188 = .ok (.getfield 30, 3) := by decide +kernel
theorem dX8_run_191 : decode cX8_run 191 = .ok (.iload_n 3, 1) := by decide +kernel
theorem dX8_run_192 : decode cX8_run 192 = .ok (.iconst 1, 1) := by decide +kernel
theorem dX8_run_193 : decode cX8_run 193 = .ok (.isub, 1) := by decide +kernel
theorem dX8_run_194 : decode cX8_run 194 = .ok (.iaload, 1) := by decide +kernel
theorem dX8_run_195 : decode cX8_run 195 = .ok (.aload_n 0, 1) := by decide +kernel
theorem dX8_run_196 : decode cX8_run 196 = .ok (.getfield 30, 3) := by decide +kernel
theorem dX8_run_199 : decode cX8_run 199 = .ok (.iload_n 3, 1) := by decide +kernel
theorem dX8_run_200 : decode cX8_run 200 = .ok (.iaload, 1) := by decide +kernel
theorem dX8_run_201 : decode cX8_run 201 = .ok (.invokestatic 78, 3) := by decide +kernel
theorem dX8_run_204 : decode cX8_run 204 = .ok (.iastore, 1) := by decide +kernel
theorem dX8_run_205 : decode cX8_run 205 = .ok (.iinc 4 1, 3) := by decide +kernel
theorem dX8_run_208 : decode cX8_run 208 = .ok (.goto (-179), 3) := by decide +kernel
theorem dX8_run_211 : decode cX8_run 211 = .ok (.aload_n 0, 1) := by decide +kernel
theorem dX8_run_212 : decode cX8_run 212 = .ok (.getfield 30, 3) := by decide +kernel
theorem dX8_run_215 : decode cX8_run 215 = .ok (.iconst 0, 1) := by decide +kernel
theorem dX8_run_216 : decode cX8_run 216 = .ok (.iaload, 1) := by decide +kernel
theorem dX8_run_217 : decode cX8_run 217 = .ok (.ireturn, 1) := by decide +kernel
theorem dX8_combine_0 : decode cX8_combine 0 = .ok (.lconst 0, 1) := by decide +kernel
theorem dX8_combine_1 : decode cX8_combine 1 = .ok (.lstore_n 3, 1) := by decide +kernel
theorem dX8_combine_2 : decode cX8_combine 2 = .ok (.iload_n 0, 1) := by decide +kernel
theorem dX8_combine_3 : decode cX8_combine 3 = .ok (.tableswitch 149 (-19) (-11) #[135, 121, 110, 99, 88, 76, 67, 58, 49], 49) := by decide +kernel
theorem dX8_combine_52 : decode cX8_combine 52 = .ok (.iload_n 1, 1) := by decide +kernel
theorem dX8_combine_53 : decode cX8_combine 53 = .ok (.i2l, 1) := by decide +kernel
theorem dX8_combine_54 : decode cX8_combine 54 = .ok (.iload_n 2, 1) := by decide +kernel
theorem dX8_combine_55 : decode cX8_combine 55 = .ok (.i2l, 1) := by decide +kernel
theorem dX8_combine_56 : decode cX8_combine 56 = .ok (.ladd, 1) := by decide +kernel
theorem dX8_combine_57 : decode cX8_combine 57 = .ok (.lstore_n 3, 1) := by decide +kernel
theorem dX8_combine_58 : decode cX8_combine 58 = .ok (.goto 96, 3) := by decide +kernel
theorem dX8_combine_61 : decode cX8_combine 61 = .ok (.iload_n 1, 1) := by decide +kernel
theorem dX8_combine_62 : decode cX8_combine 62 = .ok (.i2l, 1) := by decide +kernel
theorem dX8_combine_63 : decode cX8_combine 63 = .ok (.iload_n 2, 1) := by decide +kernel
theorem dX8_combine_64 : decode cX8_combine 64 = .ok (.i2l, 1) := by decide +kernel
theorem dX8_combine_65 : decode cX8_combine 65 = .ok (.lsub, 1) := by decide +kernel
theorem dX8_combine_66 : decode cX8_combine 66 = .ok (.lstore_n 3, 1) := by decide +kernel
theorem dX8_combine_67 : decode cX8_combine 67 = .ok (.goto 87, 3) := by decide +kernel
theorem dX8_combine_70 : decode cX8_combine 70 = .ok (.iload_n 1, 1) := by decide +kernel
theorem dX8_combine_71 : decode cX8_combine 71 = .ok (.i2l, 1) := by decide +kernel
theorem dX8_combine_72 : decode cX8_combine 72 = .ok (.iload_n 2, 1) := by decide +kernel
theorem dX8_combine_73 : decode cX8_combine 73 = .ok (.i2l, 1) := by decide +kernel
theorem dX8_combine_74 : decode cX8_combine 74 = .ok (.lmul, 1) := by decide +kernel
theorem dX8_combine_75 : decode cX8_combine 75 = .ok (.lstore_n 3, 1) := by decide +kernel
theorem dX8_combine_76 : decode cX8_combine 76 = .ok (.goto 78, 3) := by decide +kernel
theorem dX8_combine_79 : decode cX8_combine 79 = .ok (.iload_n 2, 1) := by decide +kernel
theorem dX8_combine_80 : decode cX8_combine 80 = .ok (.ifCond .ne 7, 3) := by decide +kernel
theorem dX8_combine_83 : decode cX8_combine 83 = .ok (.iconst 0, 1) := by decide +kernel
theorem dX8_combine_84 : decode cX8_combine 84 = .ok (.goto 6, 3) := by decide +kernel
theorem dX8_combine_87 : decode cX8_combine 87 = .ok (.iload_n 1, 1) := by decide +kernel
theorem dX8_combine_88 : decode cX8_combine 88 = .ok (.iload_n 2, 1) := by decide +kernel
theorem dX8_combine_89 : decode cX8_combine 89 = .ok (.idiv, 1) := by decide +kernel
theorem dX8_combine_90 : decode cX8_combine 90 = .ok (.ireturn, 1) := by decide +kernel
theorem dX8_combine_91 : decode cX8_combine 91 = .ok (.iload_n 1, 1) := by decide +kernel
theorem dX8_combine_92 : decode cX8_combine 92 = .ok (.iload_n 2, 1) := by decide +kernel
theorem dX8_combine_93 : decode cX8_combine 93 = .ok (.if_icmp .ge 7, 3) := by decide +kernel
theorem dX8_combine_96 : decode cX8_combine 96 = .ok (.iconst 1, 1) := by decide +kernel
theorem dX8_combine_97 : decode cX8_combine 97 = .ok (.goto 4, 3) := by decide +kernel
theorem dX8_combine_100 : decode cX8_combine 100 = .ok (.iconst 0, 1) := by decide +kernel
theorem dX8_combine_101 : decode cX8_combine 101 = .ok (.ireturn, 1) := by decide +kernel
theorem dX8_combine_102 : decode cX8_combine 102 = .ok (.iload_n 1, 1) := by decide +kernel
theorem dX8_combine_103 : decode cX8_combine 103 = .ok (.iload_n 2, 1) := by decide +kernel
theorem dX8_combine_104 : decode cX8_combine 104 = .ok (.if_icmp .le 7, 3) := by decide +kernel
theorem dX8_combine_107 : decode cX8_combine 107 = .ok (.iconst 1, 1) := by decide +kernel
theorem dX8_combine_108 : decode cX8_combine 108 = .ok (.goto 4, 3) := by decide +kernel
theorem dX8_combine_111 : decode cX8_combine 111 = .ok (.iconst 0, 1) := by decide +kernel
theorem dX8_combine_112 : decode cX8_combine 112 = .ok (.ireturn, 1) := by decide +kernel
theorem dX8_combine_113 : decode cX8_combine 113 = .ok (.iload_n 1, 1) := by decide +kernel
theorem dX8_combine_114 : decode cX8_combine 114 = .ok (.iload_n 2, 1) := by decide +kernel
theorem dX8_combine_115 : decode cX8_combine 115 = .ok (.if_icmp .ne 7, 3) := by decide +kernel
theorem dX8_combine_118 : decode cX8_combine 118 = .ok (.iconst 1, 1) := by decide +kernel
theorem dX8_combine_119 : decode cX8_combine 119 = .ok (.goto 4, 3) := by decide +kernel
theorem dX8_combine_122 : decode cX8_combine 122 = .ok (.iconst 0, 1) := by decide +kernel
theorem dX8_combine_123 : decode cX8_combine 123 = .ok (.ireturn, 1) := by decide +kernel
theorem dX8_combine_124 : decode cX8_combine 124 = .ok (.iload_n 1, 1) := by decide +kernel
theorem dX8_combine_125 : decode cX8_combine 125 = .ok (.ifCond .eq 11, 3) := by decide +kernel
theorem dX8_combine_128 : decode cX8_combine 128 = .ok (.iload_n 2, 1) := by decide +kernel
theorem dX8_combine_129 : decode cX8_combine 129 = .ok (.ifCond .eq 7, 3) := by decide +kernel
theorem dX8_combine_132 : decode cX8_combine 132 = .ok (.iconst 1, 1) := by decide +kernel
theorem dX8_combine_133 : decode cX8_combine 133 = .ok (.goto 4, 3) := by decide +kernel
theorem dX8_combine_136 : decode cX8_combine 136 = .ok (.iconst 0, 1) := by decide +kernel
theorem dX8_combine_137 : decode cX8_combine 137 = .ok (.ireturn, 1) := by decide +kernel
theorem dX8_combine_138 : decode cX8_combine 138 = .ok (.iload_n 1, 1) := by decide +kernel
theorem dX8_combine_139 : decode cX8_combine 139 = .ok (.ifCond .ne 7, 3) := by decide +kernel
theorem dX8_combine_142 : decode cX8_combine 142 = .ok (.iload_n 2, 1) := by decide +kernel
theorem dX8_combine_143 : decode cX8_combine 143 = .ok (.ifCond .eq 7, 3) := by decide +kernel
theorem dX8_combine_146 : decode cX8_combine 146 = .ok (.iconst 1, 1) := by decide +kernel
theorem dX8_combine_147 : decode cX8_combine 147 = .ok (.goto 4, 3) := by decide +kernel
theorem dX8_combine_150 : decode cX8_combine 150 = .ok (.iconst 0, 1) := by decide +kernel
theorem dX8_combine_151 : decode cX8_combine 151 = .ok (.ireturn, 1) := by decide +kernel
theorem dX8_combine_152 : decode cX8_combine 152 = .ok (.iconst 0, 1) := by decide +kernel
theorem dX8_combine_153 : decode cX8_combine 153 = .ok (.ireturn, 1) := by decide +kernel
theorem dX8_combine_154 : decode cX8_combine 154 = .ok (.ldc2_w 81, 3) := by decide +kernel
theorem dX8_combine_157 : decode cX8_combine 157 = .ok (.ldc2_w 83, 3) := by decide +kernel
theorem dX8_combine_160 : decode cX8_combine 160 = .ok (.lload_n 3, 1) := by decide +kernel
theorem dX8_combine_161 : decode cX8_combine 161 = .ok (.invokestatic 85, 3) := by decide +kernel
theorem dX8_combine_164 : decode cX8_combine 164 = .ok (.invokestatic 91, 3) := by decide +kernel
theorem dX8_combine_167 : decode cX8_combine 167 = .ok (.l2i, 1) := by decide +kernel
theorem dX8_combine_168 : decode cX8_combine 168 = .ok (.ireturn, 1) := by decide +kernel
theorem dX9_init_0 : decode cX9_init 0 = .ok (.aload_n 0, 1) := by decide +kernel
theorem dX9_init_1 : decode cX9_init 1 = .ok (.invokespecial 3, 3) := by decide +kernel
theorem dX9_init_4 : decode cX9_init 4 = .ok (.return_, 1) := by decide +kernel
theorem dX9_sortOf_0 : decode cX9_sortOf 0 = .ok (.iload_n 0, 1) := by decide +kernel
theorem dX9_sortOf_1 : decode cX9_sortOf 1 = .ok (.ifCond .lt 10, 3) := by decide +kernel
theorem dX9_sortOf_4 : decode cX9_sortOf 4 = .ok (.iload_n 0, 1) := by decide +kernel
theorem dX9_sortOf_5 : decode cX9_sortOf 5 = .ok (.iconst 4, 1) := by decide +kernel
theorem dX9_sortOf_6 : decode cX9_sortOf 6 = .ok (.if_icmp .gt 5, 3) := by decide +kernel
theorem dX9_sortOf_9 : decode cX9_sortOf 9 = .ok (.iload_n 0, 1) := by decide +kernel
theorem dX9_sortOf_10 : decode cX9_sortOf 10 = .ok (.ireturn, 1) := by decide +kernel
theorem dX9_sortOf_11 : decode cX9_sortOf 11 = .ok (.iload_n 0, 1) := by decide +kernel
theorem dX9_sortOf_12 : decode cX9_sortOf 12 = .ok (.bipush 10, 2) := by decide +kernel
theorem dX9_sortOf_14 : decode cX9_sortOf 14 = .ok (.idiv, 1) := by decide +kernel
theorem dX9_sortOf_15 : decode cX9_sortOf 15 = .ok (.istore_n 1, 1) := by decide +kernel
theorem dX9_sortOf_16 : decode cX9_sortOf 16 = .ok (.iload_n 0, 1) := by decide +kernel
theorem dX9_sortOf_17 : decode cX9_sortOf 17 = .ok (.bipush 10, 2) := by decide +kernel
theorem dX9_sortOf_19 : decode cX9_sortOf 19 = .ok (.irem, 1) := by decide +kernel
theorem dX9_sortOf_20 : decode cX9_sortOf 20 = .ok (.istore_n 2, 1) := by decide +kernel
theorem dX9_sortOf_21 : decode cX9_sortOf 21 = .ok (.iload_n 0, 1) := by decide +kernel
theorem dX9_sortOf_22 : decode cX9_sortOf 22 = .ok (.bipush 10, 2) := by decide +kernel
theorem dX9_sortOf_24 : decode cX9_sortOf 24 = .ok (.if_icmp .lt 25, 3) := by decide +kernel
theorem dX9_sortOf_27 : decode cX9_sortOf 27 = .ok (.iload_n 1, 1) := by decide +kernel
theorem dX9_sortOf_28 : decode cX9_sortOf 28 = .ok (.iconst 3, 1) := by decide +kernel
theorem dX9_sortOf_29 : decode cX9_sortOf 29 = .ok (.if_icmp .gt 20, 3) := by decide +kernel
theorem dX9_sortOf_32 : decode cX9_sortOf 32 = .ok (.iload_n 2, 1) := by decide +kernel
theorem dX9_sortOf_33 : decode cX9_sortOf 33 = .ok (.iconst 2, 1) := by decide +kernel
theorem dX9_sortOf_34 : decode cX9_sortOf 34 = .ok (.if_icmp .gt 15, 3) := by decide +kernel
theorem dX9_sortOf_37 : decode cX9_sortOf 37 = .ok (.iconst 5, 1) := by decide +kernel
theorem dX9_sortOf_38 : decode cX9_sortOf 38 = .ok (.iconst 3, 1) := by decide +kernel
theorem dX9_sortOf_39 : decode cX9_sortOf 39 = .ok (.iload_n 1, 1) := by decide +kernel
theorem dX9_sortOf_40 : decode cX9_sortOf 40 = .ok (.iconst 1, 1) := by decide +kernel
theorem dX9_sortOf_41 : decode cX9_sortOf 41 = .ok (.isub, 1) := by decide +kernel
theorem dX9_sortOf_42 : decode cX9_sortOf 42 = .ok (.imul, 1) := by decide +kernel
theorem dX9_sortOf_43 : decode cX9_sortOf 43 = .ok (.iadd, 1) := by decide +kernel
theorem dX9_sortOf_44 : decode cX9_sortOf 44 = .ok (.iload_n 2, 1) := by decide +kernel
theorem dX9_sortOf_45 : decode cX9_sortOf 45 = .ok (.iadd, 1) := by decide +kernel
theorem dX9_sortOf_46 : decode cX9_sortOf 46 = .ok (.goto 4, 3) := by decide +kernel
theorem dX9_sortOf_49 : decode cX9_sortOf 49 = .ok (.iconst (-1), 1) := by decide +kernel
theorem dX9_sortOf_50 : decode cX9_sortOf 50 = .ok (.ireturn, 1) := by decide +kernel
theorem dX9_has_0 : decode cX9_has 0 = .ok (.iload_n 1, 1) := by decide +kernel
theorem dX9_has_1 : decode cX9_has 1 = .ok (.ifCond .lt 26, 3) := by decide +kernel
theorem dX9_has_4 : decode cX9_has 4 = .ok (.iload_n 1, 1) := by decide +kernel
theorem dX9_has_5 : decode cX9_has 5 = .ok (.aload_n 0, 1) := by decide +kernel
theorem dX9_has_6 : decode cX9_has 6 = .ok (.getfield 11, 3) := by decide +kernel
theorem dX9_has_9 : decode cX9_has 9 = .ok (.arraylength, 1) := by decide +kernel
theorem dX9_has_10 : decode cX9_has 10 = .ok (.if_icmp .ge 17, 3) := by decide +kernel
theorem dX9_has_13 : decode cX9_has 13 = .ok (.aload_n 0, 1) := by decide +kernel
theorem dX9_has_14 : decode cX9_has 14 = .ok (.getfield 11, 3) := by decide +kernel
theorem dX9_has_17 : decode cX9_has 17 = .ok (.iload_n 1, 1) := by decide +kernel
theorem dX9_has_18 : decode cX9_has 18 = .ok (.iaload, 1) := by decide +kernel
theorem dX9_has_19 : decode cX9_has 19 = .ok (.iconst (-1), 1) := by decide +kernel
theorem dX9_has_20 : decode cX9_has 20 = .ok (.if_icmp .eq 7, 3) := by decide +kernel
theorem dX9_has_23 : decode cX9_has 23 = .ok (.iconst 1, 1) := by decide +kernel
theorem dX9_has_24 : decode cX9_has 24 = .ok (.goto 4, 3) := by decide +kernel
theorem dX9_has_27 : decode cX9_has 27 = .ok (.iconst 0, 1) := by decide +kernel
theorem dX9_has_28 : decode cX9_has 28 = .ok (.ireturn, 1) := by decide +kernel
theorem dX9_hasWord_0 : decode cX9_hasWord 0 = .ok (.iconst 0, 1) := by decide +kernel
theorem dX9_hasWord_1 : decode cX9_hasWord 1 = .ok (.istore_n 3, 1) := by decide +kernel
theorem dX9_hasWord_2 : decode cX9_hasWord 2 = .ok (.iload_n 3, 1) := by decide +kernel
theorem dX9_hasWord_3 : decode cX9_hasWord 3 = .ok (.aload_n 0, 1) := by decide +kernel
theorem dX9_hasWord_4 : decode cX9_hasWord 4 = .ok (.getfield 15, 3) := by decide +kernel
theorem dX9_hasWord_7 : decode cX9_hasWord 7 = .ok (.arraylength, 1) := by decide +kernel
theorem dX9_hasWord_8 : decode cX9_hasWord 8 = .ok (.if_icmp .ge 22, 3) := by decide +kernel
theorem dX9_hasWord_11 : decode cX9_hasWord 11 = .ok (.aload_n 0, 1) := by decide +kernel
theorem dX9_hasWord_12 : decode cX9_hasWord 12 = .ok (.getfield 15, 3) := by decide +kernel
theorem dX9_hasWord_15 : decode cX9_hasWord 15 = .ok (.iload_n 3, 1) := by decide +kernel
theorem dX9_hasWord_16 : decode cX9_hasWord 16 = .ok (.laload, 1) := by decide +kernel
theorem dX9_hasWord_17 : decode cX9_hasWord 17 = .ok (.lload_n 1, 1) := by decide +kernel
theorem dX9_hasWord_18 : decode cX9_hasWord 18 = .ok (.lcmp, 1) := by decide +kernel
theorem dX9_hasWord_19 : decode cX9_hasWord 19 = .ok (.ifCond .ne 5, 3) := by decide +kernel
theorem dX9_hasWord_22 : decode cX9_hasWord 22 = .ok (.iconst 1, 1) := by decide +kernel
theorem dX9_hasWord_23 : decode cX9_hasWord 23 = .ok (.ireturn, 1) := by decide +kernel
theorem dX9_hasWord_24 : decode cX9_hasWord 24 = .ok (.iinc 3 1, 3) := by decide +kernel
theorem dX9_hasWord_27 : decode cX9_hasWord 27 = .ok (.goto (-25), 3) := by decide +kernel
theorem dX9_hasWord_30 : decode cX9_hasWord 30 = .ok (.iconst 0, 1) := by decide +kernel
theorem dX9_hasWord_31 : decode cX9_hasWord 31 = .ok (.ireturn, 1) := by decide +kernel
theorem dX10_init_0 : decode cX10_init 0 = .ok (.aload_n 0, 1) := by decide +kernel
theorem dX10_init_1 : decode cX10_init 1 = .ok (.invokespecial 3, 3) := by decide +kernel
theorem dX10_init_4 : decode cX10_init 4 = .ok (.aload_n 0, 1) := by decide +kernel
theorem dX10_init_5 : decode cX10_init 5 = .ok (.bipush 30, 2) := by decide +kernel
theorem dX10_init_7 : decode cX10_init 7 = .ok (.newarray .int, 2) := by decide +kernel
theorem dX10_init_9 : decode cX10_init 9 = .ok (.putfield 11, 3) := by decide +kernel
theorem dX10_init_12 : decode cX10_init 12 = .ok (.aload_n 0, 1) := by decide +kernel
theorem dX10_init_13 : decode cX10_init 13 = .ok (.bipush 31, 2) := by decide +kernel
theorem dX10_init_15 : decode cX10_init 15 = .ok (.newarray .int, 2) := by decide +kernel
theorem dX10_init_17 : decode cX10_init 17 = .ok (.putfield 15, 3) := by decide +kernel
theorem dX10_init_20 : decode cX10_init 20 = .ok (.return_, 1) := by decide +kernel
theorem dX10_add_0 : decode cX10_add 0 = .ok (.aload_n 0, 1) := by decide +kernel
theorem dX10_add_1 : decode cX10_add 1 = .ok (.getfield 18, 3) := by decide +kernel
theorem dX10_add_4 : decode cX10_add 4 = .ok (.ifCond .lt 12, 3) := by decide +kernel
theorem dX10_add_7 : decode cX10_add 7 = .ok (.aload_n 0, 1) := by decide +kernel
theorem dX10_add_8 : decode cX10_add 8 = .ok (.getfield 18, 3) := by decide +kernel
theorem dX10_add_11 : decode cX10_add 11 = .ok (.bipush 30, 2) := by decide +kernel
theorem dX10_add_13 : decode cX10_add 13 = .ok (.if_icmp .lt 5, 3) := by decide +kernel
theorem dX10_add_16 : decode cX10_add 16 = .ok (.iconst (-1), 1) := by decide +kernel
theorem dX10_add_17 : decode cX10_add 17 = .ok (.ireturn, 1) := by decide +kernel
theorem dX10_add_18 : decode cX10_add 18 = .ok (.aload_n 0, 1) := by decide +kernel
theorem dX10_add_19 : decode cX10_add 19 = .ok (.getfield 11, 3) := by decide +kernel
theorem dX10_add_22 : decode cX10_add 22 = .ok (.aload_n 0, 1) := by decide +kernel
theorem dX10_add_23 : decode cX10_add 23 = .ok (.getfield 18, 3) := by decide +kernel
theorem dX10_add_26 : decode cX10_add 26 = .ok (.iload_n 1, 1) := by decide +kernel
theorem dX10_add_27 : decode cX10_add 27 = .ok (.iastore, 1) := by decide +kernel
theorem dX10_add_28 : decode cX10_add 28 = .ok (.aload_n 0, 1) := by decide +kernel
theorem dX10_add_29 : decode cX10_add 29 = .ok (.dup, 1) := by decide +kernel
theorem dX10_add_30 : decode cX10_add 30 = .ok (.getfield 18, 3) := by decide +kernel
theorem dX10_add_33 : decode cX10_add 33 = .ok (.iconst 1, 1) := by decide +kernel
theorem dX10_add_34 : decode cX10_add 34 = .ok (.iadd, 1) := by decide +kernel
theorem dX10_add_35 : decode cX10_add 35 = .ok (.putfield 18, 3) := by decide +kernel
theorem dX10_add_38 : decode cX10_add 38 = .ok (.aload_n 0, 1) := by decide +kernel
theorem dX10_add_39 : decode cX10_add 39 = .ok (.getfield 18, 3) := by decide +kernel
theorem dX10_add_42 : decode cX10_add 42 = .ok (.ireturn, 1) := by decide +kernel
theorem dX10_begin_0 : decode cX10_begin 0 = .ok (.iconst 0, 1) := by decide +kernel
theorem dX10_begin_1 : decode cX10_begin 1 = .ok (.istore_n 1, 1) := by decide +kernel
theorem dX10_begin_2 : decode cX10_begin 2 = .ok (.iload_n 1, 1) := by decide +kernel
theorem dX10_begin_3 : decode cX10_begin 3 = .ok (.bipush 30, 2) := by decide +kernel
theorem dX10_begin_5 : decode cX10_begin 5 = .ok (.if_icmp .gt 19, 3) := by decide +kernel
theorem dX10_begin_8 : decode cX10_begin 8 = .ok (.aload_n 0, 1) := by decide +kernel
theorem dX10_begin_9 : decode cX10_begin 9 = .ok (.getfield 15, 3) := by decide +kernel
theorem dX10_begin_12 : decode cX10_begin 12 = .ok (.iload_n 1, 1) := by decide +kernel
theorem dX10_begin_13 : decode cX10_begin 13 = .ok (.iload_n 1, 1) := by decide +kernel
theorem dX10_begin_14 : decode cX10_begin 14 = .ok (.bipush 64, 2) := by decide +kernel
theorem dX10_begin_16 : decode cX10_begin 16 = .ok (.imul, 1) := by decide +kernel
theorem dX10_begin_17 : decode cX10_begin 17 = .ok (.iastore, 1) := by decide +kernel
theorem dX10_begin_18 : decode cX10_begin 18 = .ok (.iinc 1 1, 3) := by decide +kernel
theorem dX10_begin_21 : decode cX10_begin 21 = .ok (.goto (-19), 3) := by decide +kernel
theorem dX10_begin_24 : decode cX10_begin 24 = .ok (.return_, 1) := by decide +kernel
theorem dX10_meet_0 : decode cX10_meet 0 = .ok (.aload_n 0, 1) := by decide +kernel
theorem dX10_meet_1 : decode cX10_meet 1 = .ok (.getfield 15, 3) := by decide +kernel
theorem dX10_meet_4 : decode cX10_meet 4 = .ok (.iconst 0, 1) := by decide +kernel
theorem dX10_meet_5 : decode cX10_meet 5 = .ok (.iaload, 1) := by decide +kernel
theorem dX10_meet_6 : decode cX10_meet 6 = .ok (.istore_n 3, 1) := by decide +kernel
theorem dX10_meet_7 : decode cX10_meet 7 = .ok (.aload_n 0, 1) := by decide +kernel
theorem dX10_meet_8 : decode cX10_meet 8 = .ok (.getfield 15, 3) := by decide +kernel
theorem dX10_meet_11 : decode cX10_meet 11 = .ok (.iconst 0, 1) := by decide +kernel
theorem dX10_meet_12 : decode cX10_meet 12 = .ok (.dup2, 1) := by decide +kernel
theorem dX10_meet_13 : decode cX10_meet 13 = .ok (.iaload, 1) := by decide +kernel
theorem dX10_meet_14 : decode cX10_meet 14 = .ok (.bipush 64, 2) := by decide +kernel
theorem dX10_meet_16 : decode cX10_meet 16 = .ok (.iadd, 1) := by decide +kernel
theorem dX10_meet_17 : decode cX10_meet 17 = .ok (.iastore, 1) := by decide +kernel
theorem dX10_meet_18 : decode cX10_meet 18 = .ok (.iconst 0, 1) := by decide +kernel
theorem dX10_meet_19 : decode cX10_meet 19 = .ok (.istore 4, 2) := by decide +kernel
theorem dX10_meet_21 : decode cX10_meet 21 = .ok (.iload 4, 2) := by decide +kernel
theorem dX10_meet_23 : decode cX10_meet 23 = .ok (.aload_n 0, 1) := by decide +kernel
theorem dX10_meet_24 : decode cX10_meet 24 = .ok (.getfield 18, 3) := by decide +kernel
theorem dX10_meet_27 : decode cX10_meet 27 = .ok (.if_icmp .ge 88, 3) := by decide +kernel
theorem dX10_meet_30 : decode cX10_meet 30 = .ok (.iload 4, 2) := by decide +kernel
theorem dX10_meet_32 : decode cX10_meet 32 = .ok (.bipush 30, 2) := by decide +kernel
theorem dX10_meet_34 : decode cX10_meet 34 = .ok (.if_icmp .ge 81, 3) := by decide +kernel
theorem dX10_meet_37 : decode cX10_meet 37 = .ok (.aload_n 0, 1) := by decide +kernel
theorem dX10_meet_38 : decode cX10_meet 38 = .ok (.getfield 15, 3) := by decide +kernel
theorem dX10_meet_41 : decode cX10_meet 41 = .ok (.iload 4, 2) := by decide +kernel
theorem dX10_meet_43 : decode cX10_meet 43 = .ok (.iconst 1, 1) := by decide +kernel
theorem dX10_meet_44 : decode cX10_meet 44 = .ok (.iadd, 1) := by decide +kernel
theorem dX10_meet_45 : decode cX10_meet 45 = .ok (.iaload, 1) := by decide +kernel
theorem dX10_meet_46 : decode cX10_meet 46 = .ok (.istore 5, 2) := by decide +kernel
theorem dX10_meet_48 : decode cX10_meet 48 = .ok (.aload_n 0, 1) := by decide +kernel
theorem dX10_meet_49 : decode cX10_meet 49 = .ok (.getfield 11, 3) := by decide +kernel
theorem dX10_meet_52 : decode cX10_meet 52 = .ok (.iload 4, 2) := by decide +kernel
theorem dX10_meet_54 : decode cX10_meet 54 = .ok (.iaload, 1) := by decide +kernel
theorem dX10_meet_55 : decode cX10_meet 55 = .ok (.iload_n 1, 1) := by decide +kernel
theorem dX10_meet_56 : decode cX10_meet 56 = .ok (.if_icmp .eq 8, 3) := by decide +kernel
theorem dX10_meet_59 : decode cX10_meet 59 = .ok (.bipush 64, 2) := by decide +kernel
theorem dX10_meet_61 : decode cX10_meet 61 = .ok (.goto 12, 3) := by decide +kernel
theorem dX10_meet_64 : decode cX10_meet 64 = .ok (.iload_n 2, 1) := by decide +kernel
theorem dX10_meet_65 : decode cX10_meet 65 = .ok (.ifCond .eq 7, 3) := by decide +kernel
theorem dX10_meet_68 : decode cX10_meet 68 = .ok (.iconst (-1), 1) := by decide +kernel
theorem dX10_meet_69 : decode cX10_meet 69 = .ok (.goto 4, 3) := by decide +kernel
theorem dX10_meet_72 : decode cX10_meet 72 = .ok (.iconst 0, 1) := by decide +kernel
theorem dX10_meet_73 : decode cX10_meet 73 = .ok (.istore 6, 2) := by decide +kernel
theorem dX10_meet_75 : decode cX10_meet 75 = .ok (.aload_n 0, 1) := by decide +kernel
theorem dX10_meet_76 : decode cX10_meet 76 = .ok (.getfield 15, 3) := by decide +kernel
theorem dX10_meet_79 : decode cX10_meet 79 = .ok (.iload 4, 2) := by decide +kernel
theorem dX10_meet_81 : decode cX10_meet 81 = .ok (.iconst 1, 1) := by decide +kernel
theorem dX10_meet_82 : decode cX10_meet 82 = .ok (.iadd, 1) := by decide +kernel
theorem dX10_meet_83 : decode cX10_meet 83 = .ok (.iload_n 3, 1) := by decide +kernel
theorem dX10_meet_84 : decode cX10_meet 84 = .ok (.iload 6, 2) := by decide +kernel
theorem dX10_meet_86 : decode cX10_meet 86 = .ok (.iadd, 1) := by decide +kernel
theorem dX10_meet_87 : decode cX10_meet 87 = .ok (.iload 5, 2) := by decide +kernel
theorem dX10_meet_89 : decode cX10_meet 89 = .ok (.aload_n 0, 1) := by decide +kernel
theorem dX10_meet_90 : decode cX10_meet 90 = .ok (.getfield 15, 3) := by decide +kernel
theorem dX10_meet_93 : decode cX10_meet 93 = .ok (.iload 4, 2) := by decide +kernel
theorem dX10_meet_95 : decode cX10_meet 95 = .ok (.iaload, 1) := by decide +kernel
theorem dX10_meet_96 : decode cX10_meet 96 = .ok (.invokestatic 22, 3) := by decide +kernel
theorem dX10_meet_99 : decode cX10_meet 99 = .ok (.bipush 64, 2) := by decide +kernel
theorem dX10_meet_101 : decode cX10_meet 101 = .ok (.iadd, 1) := by decide +kernel
theorem dX10_meet_102 : decode cX10_meet 102 = .ok (.invokestatic 22, 3) := by decide +kernel
theorem dX10_meet_105 : decode cX10_meet 105 = .ok (.iastore, 1) := by decide +kernel
theorem dX10_meet_106 : decode cX10_meet 106 = .ok (.iload 5, 2) := by decide +kernel
theorem dX10_meet_108 : decode cX10_meet 108 = .ok (.istore_n 3, 1) := by decide +kernel
theorem dX10_meet_109 : decode cX10_meet 109 = .ok (.iinc 4 1, 3) := by decide +kernel
theorem dX10_meet_112 : decode cX10_meet 112 = .ok (.goto (-91), 3) := by decide +kernel
theorem dX10_meet_115 : decode cX10_meet 115 = .ok (.return_, 1) := by decide +kernel
theorem dX10_weightOfAll_0 : decode cX10_weightOfAll 0 = .ok (.aload_n 0, 1) := by decide +kernel
theorem dX10_weightOfAll_1 : decode cX10_weightOfAll 1 = .ok (.getfield 18, 3) := by decide +kernel
theorem dX10_weightOfAll_4 : decode cX10_weightOfAll 4 = .ok (.ifCond .lt 24, 3) := by decide +kernel
theorem dX10_weightOfAll_7 : decode cX10_weightOfAll 7 = .ok (.aload_n 0, 1) := by decide +kernel
theorem dX10_weightOfAll_8 : decode cX10_weightOfAll 8 = .ok (.getfield 18, 3) := by decide +kernel
theorem dX10_weightOfAll_11 : decode cX10_weightOfAll 11 = .ok (.bipush 30, 2) := by decide +kernel
theorem dX10_weightOfAll_13 : decode cX10_weightOfAll 13 = .ok (.if_icmp .gt 15, 3) := by decide +kernel
theorem dX10_weightOfAll_16 : decode cX10_weightOfAll 16 = .ok (.aload_n 0, 1) := by decide +kernel
theorem dX10_weightOfAll_17 : decode cX10_weightOfAll 17 = .ok (.getfield 15, 3) := by decide +kernel
theorem dX10_weightOfAll_20 : decode cX10_weightOfAll 20 = .ok (.aload_n 0, 1) := by decide +kernel
theorem dX10_weightOfAll_21 : decode cX10_weightOfAll 21 = .ok (.getfield 18, 3) := by decide +kernel
theorem dX10_weightOfAll_24 : decode cX10_weightOfAll 24 = .ok (.iaload, 1) := by decide +kernel
theorem dX10_weightOfAll_25 : decode cX10_weightOfAll 25 = .ok (.goto 4, 3) := by decide +kernel
theorem dX10_weightOfAll_28 : decode cX10_weightOfAll 28 = .ok (.iconst 0, 1) := by decide +kernel
theorem dX10_weightOfAll_29 : decode cX10_weightOfAll 29 = .ok (.ireturn, 1) := by decide +kernel
set_option maxRecDepth 20000 in
theorem ggX10_changes_X10_weightOfAll : GoodIn wsX10_changes wsX10_weightOfAll := goodIn_r _ [5, 6, 7, 8, 9, 10] (by decide +kernel) (by decide +kernel)
set_option maxRecDepth 20000 in
theorem gX10_changes_X10_weightOfAll : GoodIn wsX10_changes (wsV RX10 28 RX10 yX10_weightOfAll wsX10_weightOfAll) := goodIn_app (goodIn_of _ (by decide +kernel)) ggX10_changes_X10_weightOfAll
theorem dX10_changes_0 : decode cX10_changes 0 = .ok (.aload_n 0, 1) := by decide +kernel
theorem dX10_changes_1 : decode cX10_changes 1 = .ok (.invokevirtual 28, 3) := by decide +kernel
theorem dX10_changes_4 : decode cX10_changes 4 = .ok (.bipush 64, 2) := by decide +kernel
theorem dX10_changes_6 : decode cX10_changes 6 = .ok (.iadd, 1) := by decide +kernel
theorem dX10_changes_7 : decode cX10_changes 7 = .ok (.iconst 1, 1) := by decide +kernel
theorem dX10_changes_8 : decode cX10_changes 8 = .ok (.isub, 1) := by decide +kernel
theorem dX10_changes_9 : decode cX10_changes 9 = .ok (.bipush 64, 2) := by decide +kernel
theorem dX10_changes_11 : decode cX10_changes 11 = .ok (.idiv, 1) := by decide +kernel
theorem dX10_changes_12 : decode cX10_changes 12 = .ok (.ireturn, 1) := by decide +kernel
set_option maxRecDepth 20000 in
theorem ggX10_shared_X10_changes : GoodIn wsX10_shared wsX10_changes := goodIn_r _ [5, 6, 7, 8, 4, 9, 10, 11, 12, 13, 14] (by decide +kernel) (by decide +kernel)
set_option maxRecDepth 20000 in
theorem gX10_shared_X10_changes : GoodIn wsX10_shared (wsV RX10 32 RX10 yX10_changes wsX10_changes) := goodIn_app (goodIn_of _ (by decide +kernel)) ggX10_shared_X10_changes
set_option maxRecDepth 20000 in
theorem ggX10_shared_X10_weightOfAll : GoodIn wsX10_shared wsX10_weightOfAll := goodIn_r _ [9, 10, 11, 12, 13, 14] (by decide +kernel) (by decide +kernel)
set_option maxRecDepth 20000 in
theorem gX10_shared_X10_weightOfAll : GoodIn wsX10_shared (wsV RX10 28 RX10 yX10_weightOfAll wsX10_weightOfAll) := goodIn_app (goodIn_of _ (by decide +kernel)) ggX10_shared_X10_weightOfAll
theorem dX10_shared_0 : decode cX10_shared 0 = .ok (.aload_n 0, 1) := by decide +kernel
theorem dX10_shared_1 : decode cX10_shared 1 = .ok (.invokevirtual 32, 3) := by decide +kernel
theorem dX10_shared_4 : decode cX10_shared 4 = .ok (.bipush 64, 2) := by decide +kernel
theorem dX10_shared_6 : decode cX10_shared 6 = .ok (.imul, 1) := by decide +kernel
theorem dX10_shared_7 : decode cX10_shared 7 = .ok (.aload_n 0, 1) := by decide +kernel
theorem dX10_shared_8 : decode cX10_shared 8 = .ok (.invokevirtual 28, 3) := by decide +kernel
theorem dX10_shared_11 : decode cX10_shared 11 = .ok (.isub, 1) := by decide +kernel
theorem dX10_shared_12 : decode cX10_shared 12 = .ok (.ireturn, 1) := by decide +kernel
theorem dX11_init_0 : decode cX11_init 0 = .ok (.aload_n 0, 1) := by decide +kernel
theorem dX11_init_1 : decode cX11_init 1 = .ok (.invokespecial 3, 3) := by decide +kernel
theorem dX11_init_4 : decode cX11_init 4 = .ok (.aload_n 0, 1) := by decide +kernel
theorem dX11_init_5 : decode cX11_init 5 = .ok (.iconst (-1), 1) := by decide +kernel
theorem dX11_init_6 : decode cX11_init 6 = .ok (.putfield 9, 3) := by decide +kernel
theorem dX11_init_9 : decode cX11_init 9 = .ok (.aload_n 0, 1) := by decide +kernel
theorem dX11_init_10 : decode cX11_init 10 = .ok (.iconst 0, 1) := by decide +kernel
theorem dX11_init_11 : decode cX11_init 11 = .ok (.newarray .int, 2) := by decide +kernel
theorem dX11_init_13 : decode cX11_init 13 = .ok (.putfield 15, 3) := by decide +kernel
theorem dX11_init_16 : decode cX11_init 16 = .ok (.aload_n 0, 1) := by decide +kernel
theorem dX11_init_17 : decode cX11_init 17 = .ok (.iconst 0, 1) := by decide +kernel
theorem dX11_init_18 : decode cX11_init 18 = .ok (.newarray .int, 2) := by decide +kernel
theorem dX11_init_20 : decode cX11_init 20 = .ok (.putfield 19, 3) := by decide +kernel
theorem dX11_init_23 : decode cX11_init 23 = .ok (.aload_n 0, 1) := by decide +kernel
theorem dX11_init_24 : decode cX11_init 24 = .ok (.bipush 25, 2) := by decide +kernel
theorem dX11_init_26 : decode cX11_init 26 = .ok (.iconst 5, 1) := by decide +kernel
theorem dX11_init_27 : decode cX11_init 27 = .ok (.iload_n 1, 1) := by decide +kernel
theorem dX11_init_28 : decode cX11_init 28 = .ok (.imul, 1) := by decide +kernel
theorem dX11_init_29 : decode cX11_init 29 = .ok (.iconst 4, 1) := by decide +kernel
theorem dX11_init_30 : decode cX11_init 30 = .ok (.iadd, 1) := by decide +kernel
theorem dX11_init_31 : decode cX11_init 31 = .ok (.invokestatic 22, 3) := by decide +kernel
theorem dX11_init_34 : decode cX11_init 34 = .ok (.putfield 28, 3) := by decide +kernel
theorem dX11_init_37 : decode cX11_init 37 = .ok (.return_, 1) := by decide +kernel
theorem dX11_addLaid_0 : decode cX11_addLaid 0 = .ok (.aload_n 0, 1) := by decide +kernel
theorem dX11_addLaid_1 : decode cX11_addLaid 1 = .ok (.getfield 31, 3) := by decide +kernel
theorem dX11_addLaid_4 : decode cX11_addLaid 4 = .ok (.ifCond .lt 35, 3) := by decide +kernel
theorem dX11_addLaid_7 : decode cX11_addLaid 7 = .ok (.aload_n 0, 1) := by decide +kernel
theorem dX11_addLaid_8 : decode cX11_addLaid 8 = .ok (.getfield 31, 3) := by decide +kernel
theorem dX11_addLaid_11 : decode cX11_addLaid 11 = .ok (.aload_n 0, 1) := by decide +kernel
theorem dX11_addLaid_12 : decode cX11_addLaid 12 = .ok (.getfield 19, 3) := by decide +kernel
theorem dX11_addLaid_15 : decode cX11_addLaid 15 = .ok (.arraylength, 1) := by decide +kernel
theorem dX11_addLaid_16 : decode cX11_addLaid 16 = .ok (.if_icmp .ge 23, 3) := by decide +kernel
theorem dX11_addLaid_19 : decode cX11_addLaid 19 = .ok (.aload_n 0, 1) := by decide +kernel
theorem dX11_addLaid_20 : decode cX11_addLaid 20 = .ok (.getfield 19, 3) := by decide +kernel
theorem dX11_addLaid_23 : decode cX11_addLaid 23 = .ok (.aload_n 0, 1) := by decide +kernel
theorem dX11_addLaid_24 : decode cX11_addLaid 24 = .ok (.getfield 31, 3) := by decide +kernel
theorem dX11_addLaid_27 : decode cX11_addLaid 27 = .ok (.iload_n 1, 1) := by decide +kernel
theorem dX11_addLaid_28 : decode cX11_addLaid 28 = .ok (.iastore, 1) := by decide +kernel
theorem dX11_addLaid_29 : decode cX11_addLaid 29 = .ok (.aload_n 0, 1) := by decide +kernel
theorem dX11_addLaid_30 : decode cX11_addLaid 30 = .ok (.dup, 1) := by decide +kernel
theorem dX11_addLaid_31 : decode cX11_addLaid 31 = .ok (.getfield 31, 3) := by decide +kernel
theorem dX11_addLaid_34 : decode cX11_addLaid 34 = .ok (.iconst 1, 1) := by decide +kernel
theorem dX11_addLaid_35 : decode cX11_addLaid 35 = .ok (.iadd, 1) := by decide +kernel
theorem dX11_addLaid_36 : decode cX11_addLaid 36 = .ok (.putfield 31, 3) := by decide +kernel
theorem dX11_addLaid_39 : decode cX11_addLaid 39 = .ok (.return_, 1) := by decide +kernel
theorem dX11_laidAt_0 : decode cX11_laidAt 0 = .ok (.iload_n 1, 1) := by decide +kernel
theorem dX11_laidAt_1 : decode cX11_laidAt 1 = .ok (.ifCond .lt 29, 3) := by decide +kernel
theorem dX11_laidAt_4 : decode cX11_laidAt 4 = .ok (.iload_n 1, 1) := by decide +kernel
theorem dX11_laidAt_5 : decode cX11_laidAt 5 = .ok (.aload_n 0, 1) := by decide +kernel
theorem dX11_laidAt_6 : decode cX11_laidAt 6 = .ok (.getfield 31, 3) := by decide +kernel
theorem dX11_laidAt_9 : decode cX11_laidAt 9 = .ok (.if_icmp .ge 21, 3) := by decide +kernel
theorem dX11_laidAt_12 : decode cX11_laidAt 12 = .ok (.iload_n 1, 1) := by decide +kernel
theorem dX11_laidAt_13 : decode cX11_laidAt 13 = .ok (.aload_n 0, 1) := by decide +kernel
theorem dX11_laidAt_14 : decode cX11_laidAt 14 = .ok (.getfield 19, 3) := by decide +kernel
theorem dX11_laidAt_17 : decode cX11_laidAt 17 = .ok (.arraylength, 1) := by decide +kernel
theorem dX11_laidAt_18 : decode cX11_laidAt 18 = .ok (.if_icmp .ge 12, 3) := by decide +kernel
theorem dX11_laidAt_21 : decode cX11_laidAt 21 = .ok (.aload_n 0, 1) := by decide +kernel
theorem dX11_laidAt_22 : decode cX11_laidAt 22 = .ok (.getfield 19, 3) := by decide +kernel
theorem dX11_laidAt_25 : decode cX11_laidAt 25 = .ok (.iload_n 1, 1) := by decide +kernel
theorem dX11_laidAt_26 : decode cX11_laidAt 26 = .ok (.iaload, 1) := by decide +kernel
theorem dX11_laidAt_27 : decode cX11_laidAt 27 = .ok (.goto 4, 3) := by decide +kernel
theorem dX11_laidAt_30 : decode cX11_laidAt 30 = .ok (.iconst (-1), 1) := by decide +kernel
theorem dX11_laidAt_31 : decode cX11_laidAt 31 = .ok (.ireturn, 1) := by decide +kernel
set_option maxRecDepth 20000 in
theorem ggX12_init_X7_init : GoodIn wsX12_init wsX7_init := goodIn_r _ [47, 48, 2, 3, 49, 50, 22, 51, 52, 53, 54, 55, 56, 57, 58, 59, 131, 132, 133, 134, 135, 136, 137, 138, 139, 140, 141, 142, 143, 144, 145] (by decide +kernel) (by decide +kernel)
set_option maxRecDepth 20000 in
theorem gX12_init_X7_init_n9 : GoodIn wsX12_init (wsX7_init) := ggX12_init_X7_init
set_option maxRecDepth 20000 in
theorem ggX12_init_X8_init : GoodIn wsX12_init wsX8_init := goodIn_r _ [61, 62, 2, 3, 63, 64, 22, 65, 66, 67, 68, 69, 166, 167, 168, 169, 170, 171, 172, 173] (by decide +kernel) (by decide +kernel)
set_option maxRecDepth 20000 in
theorem gX12_init_X8_init_n18 : GoodIn wsX12_init (wsX8_init) := ggX12_init_X8_init
set_option maxRecDepth 20000 in
theorem ggX12_init_X6_init : GoodIn wsX12_init wsX6_init := goodIn_r _ [72, 73, 2, 3, 74, 174, 175, 176, 177, 178, 179] (by decide +kernel) (by decide +kernel)
set_option maxRecDepth 20000 in
theorem gX12_init_X6_init : GoodIn wsX12_init (wsX6_init) := ggX12_init_X6_init
set_option maxRecDepth 20000 in
theorem ggX12_init_X11_init : GoodIn wsX12_init wsX11_init := goodIn_r _ [77, 78, 2, 3, 79, 22, 80, 81, 82, 83, 84, 85, 86, 180, 181, 182, 183, 184, 185, 186] (by decide +kernel) (by decide +kernel)
set_option maxRecDepth 20000 in
theorem gX12_init_X11_init : GoodIn wsX12_init (wsX11_init) := ggX12_init_X11_init
set_option maxRecDepth 20000 in
theorem ggX12_init_X5_init : GoodIn wsX12_init wsX5_init := goodIn_r _ [89, 90, 2, 3, 22, 91, 92, 93, 94, 95, 96, 97, 98, 99, 100, 101, 102, 103, 104, 105, 187, 188, 189, 190, 191, 192, 193, 194, 195, 196, 197, 198] (by decide +kernel) (by decide +kernel)
set_option maxRecDepth 20000 in
theorem gX12_init_X5_init : GoodIn wsX12_init (wsX5_init) := ggX12_init_X5_init
set_option maxRecDepth 20000 in
theorem ggX12_init_J7_fill_53178 : GoodIn wsX12_init wsJ7_fill_53178 := goodIn_r _ [105] (by decide +kernel) (by decide +kernel)
set_option maxRecDepth 20000 in
theorem gX12_init_J7_fill_53178 : GoodIn wsX12_init (va_wsS RX12 76 yJ7_fill_53178 wsJ7_fill_53178) := goodIn_app (goodIn_of _ (by decide +kernel)) ggX12_init_J7_fill_53178
set_option maxRecDepth 20000 in
theorem ggX12_init_X3_init : GoodIn wsX12_init wsX3_init := goodIn_r _ [108, 109, 2, 3, 22, 110, 111, 112, 113, 114, 199, 200, 201, 202, 203, 204, 205] (by decide +kernel) (by decide +kernel)
set_option maxRecDepth 20000 in
theorem gX12_init_X3_init_n84 : GoodIn wsX12_init (wsX3_init) := ggX12_init_X3_init
set_option maxRecDepth 20000 in
theorem ggX12_init_X1_init : GoodIn wsX12_init wsX1_init := goodIn_r _ [116, 117, 2, 3, 22, 118, 119, 120, 121, 122, 123, 124, 100, 125, 206, 207, 208, 209, 210, 211, 212, 213, 214, 215] (by decide +kernel) (by decide +kernel)
set_option maxRecDepth 20000 in
theorem gX12_init_X1_init_n91 : GoodIn wsX12_init (wsX1_init) := ggX12_init_X1_init
set_option maxRecDepth 20000 in
theorem ggX12_init_X10_init : GoodIn wsX12_init wsX10_init := goodIn_r _ [127, 128, 2, 3, 22, 129, 130, 216, 217, 218] (by decide +kernel) (by decide +kernel)
set_option maxRecDepth 20000 in
theorem gX12_init_X10_init_n98 : GoodIn wsX12_init (wsX10_init) := ggX12_init_X10_init
theorem dX12_init_0 : decode cX12_init 0 = .ok (.aload_n 0, 1) := by decide +kernel
theorem dX12_init_1 : decode cX12_init 1 = .ok (.invokespecial 1, 3) := by decide +kernel
theorem dX12_init_4 : decode cX12_init 4 = .ok (.aload_n 0, 1) := by decide +kernel
theorem dX12_init_5 : decode cX12_init 5 = .ok (.new 7, 3) := by decide +kernel
theorem dX12_init_8 : decode cX12_init 8 = .ok (.dup, 1) := by decide +kernel
theorem dX12_init_9 : decode cX12_init 9 = .ok (.invokespecial 9, 3) := by decide +kernel
theorem dX12_init_12 : decode cX12_init 12 = .ok (.putfield 10, 3) := by decide +kernel
theorem dX12_init_15 : decode cX12_init 15 = .ok (.aload_n 0, 1) := by decide +kernel
theorem dX12_init_16 : decode cX12_init 16 = .ok (.new 16, 3) := by decide +kernel
theorem dX12_init_19 : decode cX12_init 19 = .ok (.dup, 1) := by decide +kernel
theorem dX12_init_20 : decode cX12_init 20 = .ok (.invokespecial 18, 3) := by decide +kernel
theorem dX12_init_23 : decode cX12_init 23 = .ok (.putfield 19, 3) := by decide +kernel
theorem dX12_init_26 : decode cX12_init 26 = .ok (.aload_n 0, 1) := by decide +kernel
theorem dX12_init_27 : decode cX12_init 27 = .ok (.new 23, 3) := by decide +kernel
theorem dX12_init_30 : decode cX12_init 30 = .ok (.dup, 1) := by decide +kernel
theorem dX12_init_31 : decode cX12_init 31 = .ok (.aload_n 0, 1) := by decide +kernel
theorem dX12_init_32 : decode cX12_init 32 = .ok (.getfield 19, 3) := by decide +kernel
theorem dX12_init_35 : decode cX12_init 35 = .ok (.invokespecial 25, 3) := by decide +kernel
theorem dX12_init_38 : decode cX12_init 38 = .ok (.putfield 28, 3) := by decide +kernel
theorem dX12_init_41 : decode cX12_init 41 = .ok (.aload_n 0, 1) := by decide +kernel
theorem dX12_init_42 : decode cX12_init 42 = .ok (.bipush 6, 2) := by decide +kernel
theorem dX12_init_44 : decode cX12_init 44 = .ok (.anewarray 32, 3) := by decide +kernel
theorem dX12_init_47 : decode cX12_init 47 = .ok (.putfield 34, 3) := by decide +kernel
theorem dX12_init_50 : decode cX12_init 50 = .ok (.iconst 0, 1) := by decide +kernel
theorem dX12_init_51 : decode cX12_init 51 = .ok (.istore_n 1, 1) := by decide +kernel
theorem dX12_init_52 : decode cX12_init 52 = .ok (.iload_n 1, 1) := by decide +kernel
theorem dX12_init_53 : decode cX12_init 53 = .ok (.bipush 6, 2) := by decide +kernel
theorem dX12_init_55 : decode cX12_init 55 = .ok (.if_icmp .ge 23, 3) := by decide +kernel
theorem dX12_init_58 : decode cX12_init 58 = .ok (.aload_n 0, 1) := by decide +kernel
theorem dX12_init_59 : decode cX12_init 59 = .ok (.getfield 34, 3) := by decide +kernel
theorem dX12_init_62 : decode cX12_init 62 = .ok (.iload_n 1, 1) := by decide +kernel
theorem dX12_init_63 : decode cX12_init 63 = .ok (.new 32, 3) := by decide +kernel
theorem dX12_init_66 : decode cX12_init 66 = .ok (.dup, 1) := by decide +kernel
theorem dX12_init_67 : decode cX12_init 67 = .ok (.iload_n 1, 1) := by decide +kernel
theorem dX12_init_68 : decode cX12_init 68 = .ok (.invokespecial 38, 3) := by decide +kernel
theorem dX12_init_71 : decode cX12_init 71 = .ok (.aastore, 1) := by decide +kernel
theorem dX12_init_72 : decode cX12_init 72 = .ok (.iinc 1 1, 3) := by decide +kernel
theorem dX12_init_75 : decode cX12_init 75 = .ok (.goto (-23), 3) := by decide +kernel
theorem dX12_init_78 : decode cX12_init 78 = .ok (.aload_n 0, 1) := by decide +kernel
theorem dX12_init_79 : decode cX12_init 79 = .ok (.bipush 60, 2) := by decide +kernel
theorem dX12_init_81 : decode cX12_init 81 = .ok (.anewarray 41, 3) := by decide +kernel
theorem dX12_init_84 : decode cX12_init 84 = .ok (.putfield 43, 3) := by decide +kernel
theorem dX12_init_87 : decode cX12_init 87 = .ok (.aload_n 0, 1) := by decide +kernel
theorem dX12_init_88 : decode cX12_init 88 = .ok (.bipush 60, 2) := by decide +kernel
theorem dX12_init_90 : decode cX12_init 90 = .ok (.newarray .int, 2) := by decide +kernel
theorem dX12_init_92 : decode cX12_init 92 = .ok (.putfield 47, 3) := by decide +kernel
theorem dX12_init_95 : decode cX12_init 95 = .ok (.aload_n 0, 1) := by decide +kernel
theorem dX12_init_96 : decode cX12_init 96 = .ok (.bipush 12, 2) := by decide +kernel
theorem dX12_init_98 : decode cX12_init 98 = .ok (.anewarray 51, 3) := by decide +kernel
theorem dX12_init_101 : decode cX12_init 101 = .ok (.putfield 53, 3) := by decide +kernel
theorem dX12_init_104 : decode cX12_init 104 = .ok (.aload_n 0, 1) := by decide +kernel
theorem dX12_init_105 : decode cX12_init 105 = .ok (.sipush 300, 3) := by decide +kernel
theorem dX12_init_108 : decode cX12_init 108 = .ok (.anewarray 57, 3) := by decide +kernel
theorem dX12_init_111 : decode cX12_init 111 = .ok (.putfield 59, 3) := by decide +kernel
theorem dX12_init_114 : decode cX12_init 114 = .ok (.aload_n 0, 1) := by decide +kernel
theorem dX12_init_115 : decode cX12_init 115 = .ok (.new 63, 3) := by decide +kernel
theorem dX12_init_118 : decode cX12_init 118 = .ok (.dup, 1) := by decide +kernel
theorem dX12_init_119 : decode cX12_init 119 = .ok (.invokespecial 65, 3) := by decide +kernel
theorem dX12_init_122 : decode cX12_init 122 = .ok (.putfield 66, 3) := by decide +kernel
theorem dX12_init_125 : decode cX12_init 125 = .ok (.aload_n 0, 1) := by decide +kernel
theorem dX12_init_126 : decode cX12_init 126 = .ok (.bipush 10, 2) := by decide +kernel
theorem dX12_init_128 : decode cX12_init 128 = .ok (.newarray .int, 2) := by decide +kernel
theorem dX12_init_130 : decode cX12_init 130 = .ok (.putfield 70, 3) := by decide +kernel
theorem dX12_init_133 : decode cX12_init 133 = .ok (.aload_n 0, 1) := by decide +kernel
theorem dX12_init_134 : decode cX12_init 134 = .ok (.bipush 10, 2) := by decide +kernel
theorem dX12_init_136 : decode cX12_init 136 = .ok (.newarray .int, 2) := by decide +kernel
theorem dX12_init_138 : decode cX12_init 138 = .ok (.putfield 73, 3) := by decide +kernel
theorem dX12_init_141 : decode cX12_init 141 = .ok (.aload_n 0, 1) := by decide +kernel
theorem dX12_init_142 : decode cX12_init 142 = .ok (.getfield 70, 3) := by decide +kernel
theorem dX12_init_145 : decode cX12_init 145 = .ok (.iconst (-1), 1) := by decide +kernel
theorem dX12_init_146 : decode cX12_init 146 = .ok (.invokestatic 76, 3) := by decide +kernel
theorem dX12_init_149 : decode cX12_init 149 = .ok (.aload_n 0, 1) := by decide +kernel
theorem dX12_init_150 : decode cX12_init 150 = .ok (.new 82, 3) := by decide +kernel
theorem dX12_init_153 : decode cX12_init 153 = .ok (.dup, 1) := by decide +kernel
theorem dX12_init_154 : decode cX12_init 154 = .ok (.invokespecial 84, 3) := by decide +kernel
theorem dX12_init_157 : decode cX12_init 157 = .ok (.putfield 85, 3) := by decide +kernel
theorem dX12_init_160 : decode cX12_init 160 = .ok (.aload_n 0, 1) := by decide +kernel
theorem dX12_init_161 : decode cX12_init 161 = .ok (.new 89, 3) := by decide +kernel
theorem dX12_init_164 : decode cX12_init 164 = .ok (.dup, 1) := by decide +kernel
theorem dX12_init_165 : decode cX12_init 165 = .ok (.invokespecial 91, 3) := by decide +kernel
theorem dX12_init_168 : decode cX12_init 168 = .ok (.putfield 92, 3) := by decide +kernel
theorem dX12_init_171 : decode cX12_init 171 = .ok (.aload_n 0, 1) := by decide +kernel
theorem dX12_init_172 : decode cX12_init 172 = .ok (.new 96, 3) := by decide +kernel
theorem dX12_init_175 : decode cX12_init 175 = .ok (.dup, 1) := by decide +kernel
theorem dX12_init_176 : decode cX12_init 176 = .ok (.invokespecial 98, 3) := by decide +kernel
theorem dX12_init_179 : decode cX12_init 179 = .ok (.putfield 99, 3) := by decide +kernel
theorem dX12_init_182 : decode cX12_init 182 = .ok (.return_, 1) := by decide +kernel
set_option maxRecDepth 20000 in
theorem ggX12_feed_X7_append : GoodIn wsX12_feed wsX7_append := goodIn_r _ [7, 8, 9, 30, 31, 32, 33, 34, 35, 36, 37, 38, 39, 40, 41, 42, 43, 44] (by decide +kernel) (by decide +kernel)
set_option maxRecDepth 20000 in
theorem gX12_feed_X7_append : GoodIn wsX12_feed (wsV RX12 107 RX7 yX7_append wsX7_append) := goodIn_app (goodIn_of _ (by decide +kernel)) ggX12_feed_X7_append
theorem dX12_feed_0 : decode cX12_feed 0 = .ok (.aload_n 0, 1) := by decide +kernel
theorem dX12_feed_1 : decode cX12_feed 1 = .ok (.getfield 10, 3) := by decide +kernel
theorem dX12_feed_4 : decode cX12_feed 4 = .ok (.getfield 103, 3) := by decide +kernel
theorem dX12_feed_7 : decode cX12_feed 7 = .ok (.bipush 20, 2) := by decide +kernel
theorem dX12_feed_9 : decode cX12_feed 9 = .ok (.iadd, 1) := by decide +kernel
theorem dX12_feed_10 : decode cX12_feed 10 = .ok (.sipush 600, 3) := by decide +kernel
theorem dX12_feed_13 : decode cX12_feed 13 = .ok (.if_icmp .le 5, 3) := by decide +kernel
theorem dX12_feed_16 : decode cX12_feed 16 = .ok (.iconst (-1), 1) := by decide +kernel
theorem dX12_feed_17 : decode cX12_feed 17 = .ok (.ireturn, 1) := by decide +kernel
theorem dX12_feed_18 : decode cX12_feed 18 = .ok (.aload_n 0, 1) := by decide +kernel
theorem dX12_feed_19 : decode cX12_feed 19 = .ok (.getfield 10, 3) := by decide +kernel
theorem dX12_feed_22 : decode cX12_feed 22 = .ok (.iload_n 1, 1) := by decide +kernel
theorem dX12_feed_23 : decode cX12_feed 23 = .ok (.invokevirtual 107, 3) := by decide +kernel
theorem dX12_feed_26 : decode cX12_feed 26 = .ok (.aload_n 0, 1) := by decide +kernel
theorem dX12_feed_27 : decode cX12_feed 27 = .ok (.getfield 10, 3) := by decide +kernel
theorem dX12_feed_30 : decode cX12_feed 30 = .ok (.iload_n 2, 1) := by decide +kernel
theorem dX12_feed_31 : decode cX12_feed 31 = .ok (.invokevirtual 107, 3) := by decide +kernel
theorem dX12_feed_34 : decode cX12_feed 34 = .ok (.aload_n 0, 1) := by decide +kernel
theorem dX12_feed_35 : decode cX12_feed 35 = .ok (.getfield 10, 3) := by decide +kernel
theorem dX12_feed_38 : decode cX12_feed 38 = .ok (.iload_n 3, 1) := by decide +kernel
theorem dX12_feed_39 : decode cX12_feed 39 = .ok (.invokevirtual 107, 3) := by decide +kernel
theorem dX12_feed_42 : decode cX12_feed 42 = .ok (.aload_n 0, 1) := by decide +kernel
theorem dX12_feed_43 : decode cX12_feed 43 = .ok (.getfield 10, 3) := by decide +kernel
theorem dX12_feed_46 : decode cX12_feed 46 = .ok (.iload 4, 2) := by decide +kernel
theorem dX12_feed_48 : decode cX12_feed 48 = .ok (.invokevirtual 107, 3) := by decide +kernel
theorem dX12_feed_51 : decode cX12_feed 51 = .ok (.aload_n 0, 1) := by decide +kernel
theorem dX12_feed_52 : decode cX12_feed 52 = .ok (.getfield 10, 3) := by decide +kernel
theorem dX12_feed_55 : decode cX12_feed 55 = .ok (.iload 5, 2) := by decide +kernel
theorem dX12_feed_57 : decode cX12_feed 57 = .ok (.invokevirtual 107, 3) := by decide +kernel
theorem dX12_feed_60 : decode cX12_feed 60 = .ok (.aload_n 0, 1) := by decide +kernel
theorem dX12_feed_61 : decode cX12_feed 61 = .ok (.getfield 10, 3) := by decide +kernel
theorem dX12_feed_64 : decode cX12_feed 64 = .ok (.getfield 103, 3) := by decide +kernel
theorem dX12_feed_67 : decode cX12_feed 67 = .ok (.ireturn, 1) := by decide +kernel
theorem dX12_end_0 : decode cX12_end 0 = .ok (.iload_n 1, 1) := by decide +kernel
theorem dX12_end_1 : decode cX12_end 1 = .ok (.ifCond .lt 14, 3) := by decide +kernel
theorem dX12_end_4 : decode cX12_end 4 = .ok (.iload_n 1, 1) := by decide +kernel
theorem dX12_end_5 : decode cX12_end 5 = .ok (.aload_n 0, 1) := by decide +kernel
theorem dX12_end_6 : decode cX12_end 6 = .ok (.getfield 10, 3) := by decide +kernel
theorem dX12_end_9 : decode cX12_end 9 = .ok (.getfield 103, 3) := by decide +kernel
theorem dX12_end_12 : decode cX12_end 12 = .ok (.if_icmp .le 5, 3) := by decide +kernel
theorem dX12_end_15 : decode cX12_end 15 = .ok (.iconst 0, 1) := by decide +kernel
theorem dX12_end_16 : decode cX12_end 16 = .ok (.ireturn, 1) := by decide +kernel
theorem dX12_end_17 : decode cX12_end 17 = .ok (.aload_n 0, 1) := by decide +kernel
theorem dX12_end_18 : decode cX12_end 18 = .ok (.getfield 10, 3) := by decide +kernel
theorem dX12_end_21 : decode cX12_end 21 = .ok (.iload_n 1, 1) := by decide +kernel
theorem dX12_end_22 : decode cX12_end 22 = .ok (.putfield 103, 3) := by decide +kernel
theorem dX12_end_25 : decode cX12_end 25 = .ok (.iconst 1, 1) := by decide +kernel
theorem dX12_end_26 : decode cX12_end 26 = .ok (.ireturn, 1) := by decide +kernel
set_option maxRecDepth 20000 in
theorem ggX12_fault_X7_parse : GoodIn wsX12_fault wsX7_parse := goodIn_r _ [6, 7, 8, 9, 10, 11, 12, 13, 14, 15, 5, 16, 17, 18, 19, 20, 21, 22, 23, 24, 25, 26, 27, 28, 29, 30, 31, 32, 33, 34, 35, 36, 37, 38, 39, 40, 41, 42, 43, 44, 45, 46, 47, 48, 49, 50, 51, 52, 53, 54, 55, 56, 57, 58, 59, 60, 61, 62, 63, 64, 65, 66, 67, 68, 69, 70, 71, 72, 73, 74, 75, 76, 77, 78, 79, 80, 81, 82, 83, 84, 85, 86, 87, 88, 89, 90, 91, 92, 93, 94, 95, 96, 97, 98, 99, 100, 101, 102, 103, 104, 105, 106, 107, 108, 109, 110, 111, 112, 113, 114, 115, 116, 117, 118, 119, 120, 121, 122, 123, 124, 125, 126, 127, 128, 129, 130, 131, 132, 133, 134, 135, 136, 137, 138, 139, 140, 141, 142, 143, 144, 145, 146, 147, 148, 149, 150, 151, 152, 153, 154, 155, 156, 157, 158, 159, 160, 161, 162, 163, 164, 165, 166, 167, 168, 169, 170, 171, 172, 173, 174, 175, 176, 177, 178, 179, 180, 181, 182, 183, 184, 185, 186, 187, 188, 189, 190, 191, 192, 193, 194, 195, 196, 197, 198, 199, 200, 201, 202, 203, 204, 205, 206, 207, 208, 209, 210, 211, 212, 213, 214, 215, 216, 217, 218, 219, 220, 221, 222, 223, 224, 225, 226, 227, 228, 229, 230, 231, 232, 233, 234, 235, 236, 237, 238, 239, 240, 241, 242, 243, 244, 245, 246, 247, 248, 249, 250, 271, 272, 273, 274, 275, 276, 277, 278, 279, 280, 281, 282, 283, 284, 285] (by decide +kernel) (by decide +kernel)
set_option maxRecDepth 20000 in
theorem gX12_fault_X7_parse : GoodIn wsX12_fault (wsV RX12 110 RX7 yX7_parse wsX7_parse) := goodIn_app (goodIn_of _ (by decide +kernel)) ggX12_fault_X7_parse
theorem dX12_fault_0 : decode cX12_fault 0 = .ok (.aload_n 0, 1) := by decide +kernel
theorem dX12_fault_1 : decode cX12_fault 1 = .ok (.getfield 10, 3) := by decide +kernel
theorem dX12_fault_4 : decode cX12_fault 4 = .ok (.invokevirtual 110, 3) := by decide +kernel
theorem dX12_fault_7 : decode cX12_fault 7 = .ok (.ireturn, 1) := by decide +kernel
set_option maxRecDepth 20000 in
theorem ggX12_sheet_X8_hasRoomForSheet : GoodIn wsX12_sheet wsX8_hasRoomForSheet := goodIn_r _ [8, 9, 341, 342, 343, 344, 345, 346, 347, 348] (by decide +kernel) (by decide +kernel)
set_option maxRecDepth 20000 in
theorem gX12_sheet_X8_hasRoomForSheet : GoodIn wsX12_sheet (wsV RX12 114 RX8 yX8_hasRoomForSheet wsX8_hasRoomForSheet) := goodIn_app (goodIn_of _ (by decide +kernel)) ggX12_sheet_X8_hasRoomForSheet
set_option maxRecDepth 20000 in
theorem ggX12_sheet_X7_parse : GoodIn wsX12_sheet wsX7_parse := goodIn_r _ [14, 15, 16, 17, 18, 19, 20, 21, 22, 23, 13, 24, 25, 26, 27, 28, 29, 30, 31, 32, 33, 34, 35, 36, 37, 38, 39, 40, 41, 42, 43, 44, 45, 46, 47, 48, 49, 50, 51, 52, 53, 54, 55, 56, 57, 58, 59, 60, 61, 62, 63, 64, 65, 66, 67, 68, 69, 70, 71, 72, 73, 74, 75, 76, 77, 78, 79, 80, 81, 82, 83, 84, 85, 86, 87, 88, 89, 90, 91, 92, 93, 94, 95, 96, 97, 98, 99, 100, 101, 102, 103, 104, 105, 106, 107, 108, 109, 110, 111, 112, 113, 114, 115, 116, 117, 118, 119, 120, 121, 122, 123, 124, 125, 126, 127, 128, 129, 130, 131, 132, 133, 134, 135, 136, 137, 138, 139, 140, 141, 142, 143, 144, 145, 146, 147, 148, 149, 150, 151, 152, 153, 154, 155, 156, 157, 158, 159, 160, 161, 162, 163, 164, 165, 166, 167, 168, 169, 170, 171, 172, 173, 174, 175, 176, 177, 178, 179, 180, 181, 182, 183, 184, 185, 186, 187, 188, 189, 190, 191, 192, 193, 194, 195, 196, 197, 198, 199, 200, 201, 202, 203, 204, 205, 206, 207, 208, 209, 210, 211, 212, 213, 214, 215, 216, 217, 218, 219, 220, 221, 222, 223, 224, 225, 226, 227, 228, 229, 230, 231, 232, 233, 234, 235, 236, 237, 238, 239, 240, 241, 242, 243, 244, 245, 246, 247, 248, 249, 250, 251, 252, 253, 254, 255, 256, 257, 258, 326, 327, 328, 329, 330, 331, 332, 333, 334, 335, 336, 337, 338, 339, 340] (by decide +kernel) (by decide +kernel)
set_option maxRecDepth 20000 in
theorem gX12_sheet_X7_parse : GoodIn wsX12_sheet (wsV RX12 110 RX7 yX7_parse wsX7_parse) := goodIn_app (goodIn_of _ (by decide +kernel)) ggX12_sheet_X7_parse
set_option maxRecDepth 20000 in
theorem ggX12_sheet_X7_compiled : GoodIn wsX12_sheet wsX7_compiled := goodIn_r _ [262, 263, 264, 265, 221, 17, 266, 74, 75, 76, 267, 19, 268, 269, 270, 271, 272, 273, 274, 258, 275, 204, 18, 276, 277, 278, 279, 280, 281, 282, 283, 182, 284, 285, 286, 287, 288, 78, 79, 289, 290, 291, 292, 293, 294, 295, 296, 297, 298, 299, 300, 349, 350, 351, 352, 326, 327, 328, 329, 330, 331, 332, 333, 334, 335, 336, 337, 338, 339, 340] (by decide +kernel) (by decide +kernel)
set_option maxRecDepth 20000 in
theorem gX12_sheet_X7_compiled : GoodIn wsX12_sheet (wsV RX12 118 RX7 yX7_compiled wsX7_compiled) := goodIn_app (goodIn_of _ (by decide +kernel)) ggX12_sheet_X7_compiled
set_option maxRecDepth 20000 in
theorem ggX12_sheet_X8_keep : GoodIn wsX12_sheet wsX8_keep := goodIn_r _ [304, 9, 305, 341, 342, 343, 344, 345, 346, 347, 348] (by decide +kernel) (by decide +kernel)
set_option maxRecDepth 20000 in
theorem gX12_sheet_X8_keep : GoodIn wsX12_sheet (wsV RX12 122 RX8 yX8_keep wsX8_keep) := goodIn_app (goodIn_of _ (by decide +kernel)) ggX12_sheet_X8_keep
theorem dX12_sheet_0 : decode cX12_sheet 0 = .ok (.aload_n 0, 1) := by decide +kernel
theorem dX12_sheet_1 : decode cX12_sheet 1 = .ok (.getfield 19, 3) := by decide +kernel
theorem dX12_sheet_4 : decode cX12_sheet 4 = .ok (.invokevirtual 114, 3) := by decide +kernel
theorem dX12_sheet_7 : decode cX12_sheet 7 = .ok (.ifCond .eq 14, 3) := by decide +kernel
theorem dX12_sheet_10 : decode cX12_sheet 10 = .ok (.aload_n 0, 1) := by decide +kernel
theorem dX12_sheet_11 : decode cX12_sheet 11 = .ok (.getfield 10, 3) := by decide +kernel
theorem dX12_sheet_14 : decode cX12_sheet 14 = .ok (.invokevirtual 110, 3) := by decide +kernel
theorem dX12_sheet_17 : decode cX12_sheet 17 = .ok (.iconst (-1), 1) := by decide +kernel
theorem dX12_sheet_18 : decode cX12_sheet 18 = .ok (.if_icmp .eq 5, 3) := by decide +kernel
theorem dX12_sheet_21 : decode cX12_sheet 21 = .ok (.iconst (-1), 1) := by decide +kernel
theorem dX12_sheet_22 : decode cX12_sheet 22 = .ok (.ireturn, 1) := by decide +kernel
theorem dX12_sheet_23 : decode cX12_sheet 23 = .ok (.aload_n 0, 1) := by decide +kernel
theorem dX12_sheet_24 : decode cX12_sheet 24 = .ok (.getfield 19, 3) := by decide +kernel
theorem dX12_sheet_27 : decode cX12_sheet 27 = .ok (.aload_n 0, 1) := by decide +kernel
theorem dX12_sheet_28 : decode cX12_sheet 28 = .ok (.getfield 10, 3) := by decide +kernel
theorem dX12_sheet_31 : decode cX12_sheet 31 = .ok (.invokevirtual 118, 3) := by decide +kernel
theorem dX12_sheet_34 : decode cX12_sheet 34 = .ok (.invokevirtual 122, 3) := by decide +kernel
theorem dX12_sheet_37 : decode cX12_sheet 37 = .ok (.istore_n 1, 1) := by decide +kernel
theorem dX12_sheet_38 : decode cX12_sheet 38 = .ok (.aload_n 0, 1) := by decide +kernel
theorem dX12_sheet_39 : decode cX12_sheet 39 = .ok (.getfield 10, 3) := by decide +kernel
theorem dX12_sheet_42 : decode cX12_sheet 42 = .ok (.iconst 0, 1) := by decide +kernel
theorem dX12_sheet_43 : decode cX12_sheet 43 = .ok (.putfield 103, 3) := by decide +kernel
theorem dX12_sheet_46 : decode cX12_sheet 46 = .ok (.iload_n 1, 1) := by decide +kernel
theorem dX12_sheet_47 : decode cX12_sheet 47 = .ok (.ireturn, 1) := by decide +kernel
set_option maxRecDepth 20000 in
theorem ggX12_force_X12_isVolume : GoodIn wsX12_force wsX12_isVolume := goodIn_r _ [7] (by decide +kernel) (by decide +kernel)
set_option maxRecDepth 20000 in
theorem gX12_force_X12_isVolume : GoodIn wsX12_force (wsV RX12 126 RX12 yX12_isVolume wsX12_isVolume) := goodIn_app (goodIn_of _ (by decide +kernel)) ggX12_force_X12_isVolume
set_option maxRecDepth 20000 in
theorem ggX12_force_X12_isSet : GoodIn wsX12_force wsX12_isSet := goodIn_r _ [11, 12, 128, 129, 130, 131, 132, 133, 134, 135, 136, 137, 138, 139, 140, 141, 142, 143, 144, 145, 146, 147] (by decide +kernel) (by decide +kernel)
set_option maxRecDepth 20000 in
theorem gX12_force_X12_isSet : GoodIn wsX12_force (wsV RX12 130 RX12 yX12_isSet wsX12_isSet) := goodIn_app (goodIn_of _ (by decide +kernel)) ggX12_force_X12_isSet
set_option maxRecDepth 20000 in
theorem ggX12_force_X8_put : GoodIn wsX12_force wsX8_put := goodIn_r _ [17, 18, 19, 20, 21, 22, 148, 149, 150, 151, 152, 153, 154, 155] (by decide +kernel) (by decide +kernel)
set_option maxRecDepth 20000 in
theorem gX12_force_X8_put : GoodIn wsX12_force (wsV RX12 136 RX8 yX8_put wsX8_put) := goodIn_app (goodIn_of _ (by decide +kernel)) ggX12_force_X8_put
set_option maxRecDepth 20000 in
theorem ggX12_force_X12_sortIntoVolumes : GoodIn wsX12_force wsX12_sortIntoVolumes := goodIn_r _ [26, 27, 2, 28, 29, 30, 31, 32, 33, 34, 35, 36, 37, 38, 39, 40, 41, 42, 43, 16, 44, 45, 46, 47, 48, 49, 50, 19, 20, 51, 52, 53, 54, 22, 21, 55, 56, 57, 58, 59, 60, 61, 62, 63, 64, 65, 66, 67, 68, 69, 70, 71, 72, 73, 74, 75, 76, 77, 78, 79, 80, 81, 82, 83, 84, 6, 85, 86, 87, 88, 89, 90, 91, 92, 93, 94, 95, 96, 97, 98, 99, 100, 101, 102, 103, 104, 105, 106, 107, 108, 109, 110, 111, 112, 113, 114, 115, 116, 117, 118, 119, 120, 121, 122, 123, 124, 125, 126, 127, 3, 4, 5, 7, 128, 129, 130, 131, 132, 133, 134, 135, 136, 137, 138, 139, 140, 141, 142, 143, 144, 145, 146, 147, 156, 157, 158, 159, 160, 161, 162, 163, 164, 165, 166, 167, 168, 169, 170, 171, 172, 173, 174, 175, 176, 177, 178, 179, 148, 149, 150, 151, 152, 153, 154, 155, 180, 181, 182, 183, 184, 185, 186, 187, 188, 189, 190] (by decide +kernel) (by decide +kernel)
set_option maxRecDepth 20000 in
theorem gX12_force_X12_sortIntoVolumes : GoodIn wsX12_force (wsV RX12 140 RX12 yX12_sortIntoVolumes wsX12_sortIntoVolumes) := goodIn_app (goodIn_of _ (by decide +kernel)) ggX12_force_X12_sortIntoVolumes
theorem dX12_force_0 : decode cX12_force 0 = .ok (.iload_n 2, 1) := by decide +kernel
theorem dX12_force_1 : decode cX12_force 1 = .ok (.iconst (-1), 1) := by decide +kernel
theorem dX12_force_2 : decode cX12_force 2 = .ok (.if_icmp .ne 7, 3) := by decide +kernel
theorem dX12_force_5 : decode cX12_force 5 = .ok (.iconst 1, 1) := by decide +kernel
theorem dX12_force_6 : decode cX12_force 6 = .ok (.goto 4, 3) := by decide +kernel
theorem dX12_force_9 : decode cX12_force 9 = .ok (.iconst 0, 1) := by decide +kernel
theorem dX12_force_10 : decode cX12_force 10 = .ok (.istore_n 3, 1) := by decide +kernel
theorem dX12_force_11 : decode cX12_force 11 = .ok (.iload_n 3, 1) := by decide +kernel
theorem dX12_force_12 : decode cX12_force 12 = .ok (.ifCond .ne 21, 3) := by decide +kernel
theorem dX12_force_15 : decode cX12_force 15 = .ok (.aload_n 0, 1) := by decide +kernel
theorem dX12_force_16 : decode cX12_force 16 = .ok (.iload_n 2, 1) := by decide +kernel
theorem dX12_force_17 : decode cX12_force 17 = .ok (.invokevirtual 126, 3) := by decide +kernel
theorem dX12_force_20 : decode cX12_force 20 = .ok (.ifCond .eq 11, 3) := by decide +kernel
theorem dX12_force_23 : decode cX12_force 23 = .ok (.aload_n 0, 1) := by decide +kernel
theorem dX12_force_24 : decode cX12_force 24 = .ok (.iload_n 2, 1) := by decide +kernel
theorem dX12_force_25 : decode cX12_force 25 = .ok (.invokevirtual 130, 3) := by decide +kernel
theorem dX12_force_28 : decode cX12_force 28 = .ok (.ifCond .eq 5, 3) := by decide +kernel
theorem dX12_force_31 : decode cX12_force 31 = .ok (.iconst (-1), 1) := by decide +kernel
theorem dX12_force_32 : decode cX12_force 32 = .ok (.ireturn, 1) := by decide +kernel
theorem dX12_force_33 : decode cX12_force 33 = .ok (.aload_n 0, 1) := by decide +kernel
theorem dX12_force_34 : decode cX12_force 34 = .ok (.getfield 19, 3) := by decide +kernel
theorem dX12_force_37 : decode cX12_force 37 = .ok (.iload_n 1, 1) := by decide +kernel
theorem dX12_force_38 : decode cX12_force 38 = .ok (.iload_n 2, 1) := by decide +kernel
theorem dX12_force_39 : decode cX12_force 39 = .ok (.aload_n 0, 1) := by decide +kernel
theorem dX12_force_40 : decode cX12_force 40 = .ok (.getfield 133, 3) := by decide +kernel
theorem dX12_force_43 : decode cX12_force 43 = .ok (.invokevirtual 136, 3) := by decide +kernel
theorem dX12_force_46 : decode cX12_force 46 = .ok (.istore 4, 2) := by decide +kernel
theorem dX12_force_48 : decode cX12_force 48 = .ok (.iload 4, 2) := by decide +kernel
theorem dX12_force_50 : decode cX12_force 50 = .ok (.iconst (-1), 1) := by decide +kernel
theorem dX12_force_51 : decode cX12_force 51 = .ok (.if_icmp .eq 11, 3) := by decide +kernel
theorem dX12_force_54 : decode cX12_force 54 = .ok (.iload_n 3, 1) := by decide +kernel
theorem dX12_force_55 : decode cX12_force 55 = .ok (.ifCond .eq 7, 3) := by decide +kernel
theorem dX12_force_58 : decode cX12_force 58 = .ok (.aload_n 0, 1) := by decide +kernel
theorem dX12_force_59 : decode cX12_force 59 = .ok (.invokevirtual 140, 3) := by decide +kernel
theorem dX12_force_62 : decode cX12_force 62 = .ok (.iload 4, 2) := by decide +kernel
theorem dX12_force_64 : decode cX12_force 64 = .ok (.ireturn, 1) := by decide +kernel
set_option maxRecDepth 20000 in
theorem ggX12_rule_X9_sortOf : GoodIn wsX12_rule wsX9_sortOf := goodIn_r _ [6] (by decide +kernel) (by decide +kernel)
set_option maxRecDepth 20000 in
theorem gX12_rule_X9_sortOf : GoodIn wsX12_rule (va_wsS RX12 143 yX9_sortOf wsX9_sortOf) := goodIn_app (goodIn_of _ (by decide +kernel)) ggX12_rule_X9_sortOf
set_option maxRecDepth 20000 in
theorem ggX12_rule_X12_isVolume : GoodIn wsX12_rule wsX12_isVolume := goodIn_r _ [11] (by decide +kernel) (by decide +kernel)
set_option maxRecDepth 20000 in
theorem gX12_rule_X12_isVolume : GoodIn wsX12_rule (wsV RX12 126 RX12 yX12_isVolume wsX12_isVolume) := goodIn_app (goodIn_of _ (by decide +kernel)) ggX12_rule_X12_isVolume
set_option maxRecDepth 20000 in
theorem ggX12_rule_X8_inForce : GoodIn wsX12_rule wsX8_inForce := goodIn_r _ [16, 17, 18, 19, 20, 21, 15, 22, 23, 24, 25, 26, 27, 28, 5, 29, 30, 51, 52, 53, 54, 55, 56, 57, 58, 59, 60, 61, 62] (by decide +kernel) (by decide +kernel)
set_option maxRecDepth 20000 in
theorem gX12_rule_X8_inForce : GoodIn wsX12_rule (wsV RX12 149 RX8 yX8_inForce wsX8_inForce) := goodIn_app (goodIn_of _ (by decide +kernel)) ggX12_rule_X8_inForce
theorem dX12_rule_0 : decode cX12_rule 0 = .ok (.iload_n 1, 1) := by decide +kernel
theorem dX12_rule_1 : decode cX12_rule 1 = .ok (.invokestatic 143, 3) := by decide +kernel
theorem dX12_rule_4 : decode cX12_rule 4 = .ok (.istore 4, 2) := by decide +kernel
theorem dX12_rule_6 : decode cX12_rule 6 = .ok (.iload 4, 2) := by decide +kernel
theorem dX12_rule_8 : decode cX12_rule 8 = .ok (.iconst (-1), 1) := by decide +kernel
theorem dX12_rule_9 : decode cX12_rule 9 = .ok (.if_icmp .eq 23, 3) := by decide +kernel
theorem dX12_rule_12 : decode cX12_rule 12 = .ok (.aload_n 0, 1) := by decide +kernel
theorem dX12_rule_13 : decode cX12_rule 13 = .ok (.iload_n 2, 1) := by decide +kernel
theorem dX12_rule_14 : decode cX12_rule 14 = .ok (.invokevirtual 126, 3) := by decide +kernel
theorem dX12_rule_17 : decode cX12_rule 17 = .ok (.ifCond .eq 15, 3) := by decide +kernel
theorem dX12_rule_20 : decode cX12_rule 20 = .ok (.iload_n 3, 1) := by decide +kernel
theorem dX12_rule_21 : decode cX12_rule 21 = .ok (.ifCond .lt 11, 3) := by decide +kernel
theorem dX12_rule_24 : decode cX12_rule 24 = .ok (.iload_n 3, 1) := by decide +kernel
theorem dX12_rule_25 : decode cX12_rule 25 = .ok (.aload_n 0, 1) := by decide +kernel
theorem dX12_rule_26 : decode cX12_rule 26 = .ok (.getfield 133, 3) := by decide +kernel
theorem dX12_rule_29 : decode cX12_rule 29 = .ok (.if_icmp .le 5, 3) := by decide +kernel
theorem dX12_rule_32 : decode cX12_rule 32 = .ok (.iconst (-1), 1) := by decide +kernel
theorem dX12_rule_33 : decode cX12_rule 33 = .ok (.ireturn, 1) := by decide +kernel
theorem dX12_rule_34 : decode cX12_rule 34 = .ok (.aload_n 0, 1) := by decide +kernel
theorem dX12_rule_35 : decode cX12_rule 35 = .ok (.getfield 19, 3) := by decide +kernel
theorem dX12_rule_38 : decode cX12_rule 38 = .ok (.iload 4, 2) := by decide +kernel
theorem dX12_rule_40 : decode cX12_rule 40 = .ok (.iload_n 2, 1) := by decide +kernel
theorem dX12_rule_41 : decode cX12_rule 41 = .ok (.iload_n 3, 1) := by decide +kernel
theorem dX12_rule_42 : decode cX12_rule 42 = .ok (.invokevirtual 149, 3) := by decide +kernel
theorem dX12_rule_45 : decode cX12_rule 45 = .ok (.ireturn, 1) := by decide +kernel
theorem dX12_go_0 : decode cX12_go 0 = .ok (.iload_n 1, 1) := by decide +kernel
theorem dX12_go_1 : decode cX12_go 1 = .ok (.ifCond .lt 10, 3) := by decide +kernel
theorem dX12_go_4 : decode cX12_go 4 = .ok (.iload_n 1, 1) := by decide +kernel
theorem dX12_go_5 : decode cX12_go 5 = .ok (.sipush 300, 3) := by decide +kernel
theorem dX12_go_8 : decode cX12_go 8 = .ok (.if_icmp .le 5, 3) := by decide +kernel
theorem dX12_go_11 : decode cX12_go 11 = .ok (.iconst (-1), 1) := by decide +kernel
theorem dX12_go_12 : decode cX12_go 12 = .ok (.ireturn, 1) := by decide +kernel
theorem dX12_go_13 : decode cX12_go 13 = .ok (.aload_n 0, 1) := by decide +kernel
theorem dX12_go_14 : decode cX12_go 14 = .ok (.sipush 2000, 3) := by decide +kernel
theorem dX12_go_17 : decode cX12_go 17 = .ok (.aload_n 0, 1) := by decide +kernel
theorem dX12_go_18 : decode cX12_go 18 = .ok (.getfield 133, 3) := by decide +kernel
theorem dX12_go_21 : decode cX12_go 21 = .ok (.iload_n 1, 1) := by decide +kernel
theorem dX12_go_22 : decode cX12_go 22 = .ok (.iadd, 1) := by decide +kernel
theorem dX12_go_23 : decode cX12_go 23 = .ok (.invokestatic 152, 3) := by decide +kernel
theorem dX12_go_26 : decode cX12_go 26 = .ok (.putfield 133, 3) := by decide +kernel
theorem dX12_go_29 : decode cX12_go 29 = .ok (.aload_n 0, 1) := by decide +kernel
theorem dX12_go_30 : decode cX12_go 30 = .ok (.getfield 133, 3) := by decide +kernel
theorem dX12_go_33 : decode cX12_go 33 = .ok (.ireturn, 1) := by decide +kernel
set_option maxRecDepth 20000 in
theorem ggX12_bound_X12_lastLetter : GoodIn wsX12_bound wsX12_lastLetter := goodIn_r _ [8, 3, 9, 10, 11, 7, 12, 2, 13, 14, 15, 16, 138, 139, 140, 141, 142, 143, 144, 118, 119, 120, 121, 122, 123, 124, 125, 126, 127, 128, 129, 130, 131, 132, 133, 134, 135, 136, 137] (by decide +kernel) (by decide +kernel)
set_option maxRecDepth 20000 in
theorem gX12_bound_X12_lastLetter : GoodIn wsX12_bound (wsV RX12 161 RX12 yX12_lastLetter wsX12_lastLetter) := goodIn_app (goodIn_of _ (by decide +kernel)) ggX12_bound_X12_lastLetter
set_option maxRecDepth 20000 in
theorem ggX12_bound_X12_sortIntoVolumes : GoodIn wsX12_bound wsX12_sortIntoVolumes := goodIn_r _ [20, 21, 22, 23, 24, 25, 26, 27, 28, 29, 30, 31, 32, 33, 34, 35, 36, 37, 38, 39, 40, 41, 42, 43, 44, 45, 46, 47, 48, 49, 50, 51, 52, 53, 54, 55, 56, 57, 58, 59, 60, 61, 62, 63, 64, 65, 66, 67, 68, 69, 70, 71, 72, 73, 74, 75, 76, 77, 78, 79, 80, 81, 82, 83, 84, 7, 85, 86, 87, 88, 89, 90, 91, 92, 93, 94, 95, 96, 97, 98, 99, 100, 101, 102, 103, 104, 105, 106, 107, 108, 109, 110, 111, 112, 113, 114, 115, 116, 117, 4, 5, 6, 8, 3, 9, 10, 11, 12, 2, 13, 14, 15, 16, 118, 119, 120, 121, 122, 123, 124, 125, 126, 127, 128, 129, 130, 131, 132, 133, 134, 135, 136, 137, 145, 146, 147, 148, 149, 150, 151, 152, 153, 154, 155, 156, 157, 158, 159, 160, 161, 162, 163, 164, 165, 166, 167, 168, 169, 170, 171, 172, 173, 174, 175, 176, 177, 178, 179, 180, 138, 139, 140, 141, 142, 143, 144] (by decide +kernel) (by decide +kernel)
set_option maxRecDepth 20000 in
theorem gX12_bound_X12_sortIntoVolumes : GoodIn wsX12_bound (wsV RX12 140 RX12 yX12_sortIntoVolumes wsX12_sortIntoVolumes) := goodIn_app (goodIn_of _ (by decide +kernel)) ggX12_bound_X12_sortIntoVolumes
theorem dX12_bound_0 : decode cX12_bound 0 = .ok (.iload_n 1, 1) := by decide +kernel
theorem dX12_bound_1 : decode cX12_bound 1 = .ok (.ifCond .lt 25, 3) := by decide +kernel
theorem dX12_bound_4 : decode cX12_bound 4 = .ok (.iload_n 1, 1) := by decide +kernel
theorem dX12_bound_5 : decode cX12_bound 5 = .ok (.iconst 5, 1) := by decide +kernel
theorem dX12_bound_6 : decode cX12_bound 6 = .ok (.if_icmp .ge 20, 3) := by decide +kernel
theorem dX12_bound_9 : decode cX12_bound 9 = .ok (.iload_n 2, 1) := by decide +kernel
theorem dX12_bound_10 : decode cX12_bound 10 = .ok (.ifCond .lt 16, 3) := by decide +kernel
theorem dX12_bound_13 : decode cX12_bound 13 = .ok (.iload_n 2, 1) := by decide +kernel
theorem dX12_bound_14 : decode cX12_bound 14 = .ok (.bipush 26, 2) := by decide +kernel
theorem dX12_bound_16 : decode cX12_bound 16 = .ok (.if_icmp .ge 10, 3) := by decide +kernel
theorem dX12_bound_19 : decode cX12_bound 19 = .ok (.aload_n 0, 1) := by decide +kernel
theorem dX12_bound_20 : decode cX12_bound 20 = .ok (.getfield 158, 3) := by decide +kernel
theorem dX12_bound_23 : decode cX12_bound 23 = .ok (.ifCond .eq 5, 3) := by decide +kernel
theorem dX12_bound_26 : decode cX12_bound 26 = .ok (.iconst 0, 1) := by decide +kernel
theorem dX12_bound_27 : decode cX12_bound 27 = .ok (.ireturn, 1) := by decide +kernel
theorem dX12_bound_28 : decode cX12_bound 28 = .ok (.aload_n 0, 1) := by decide +kernel
theorem dX12_bound_29 : decode cX12_bound 29 = .ok (.getfield 34, 3) := by decide +kernel
theorem dX12_bound_32 : decode cX12_bound 32 = .ok (.iload_n 1, 1) := by decide +kernel
theorem dX12_bound_33 : decode cX12_bound 33 = .ok (.aaload, 1) := by decide +kernel
theorem dX12_bound_34 : decode cX12_bound 34 = .ok (.astore_n 3, 1) := by decide +kernel
theorem dX12_bound_35 : decode cX12_bound 35 = .ok (.aload_n 3, 1) := by decide +kernel
theorem dX12_bound_36 : decode cX12_bound 36 = .ok (.ifnull 25, 3) := by decide +kernel
theorem dX12_bound_39 : decode cX12_bound 39 = .ok (.iload_n 2, 1) := by decide +kernel
theorem dX12_bound_40 : decode cX12_bound 40 = .ok (.aload_n 0, 1) := by decide +kernel
theorem dX12_bound_41 : decode cX12_bound 41 = .ok (.iload_n 1, 1) := by decide +kernel
theorem dX12_bound_42 : decode cX12_bound 42 = .ok (.iconst 1, 1) := by decide +kernel
theorem dX12_bound_43 : decode cX12_bound 43 = .ok (.isub, 1) := by decide +kernel
theorem dX12_bound_44 : decode cX12_bound 44 = .ok (.invokevirtual 161, 3) := by decide +kernel
theorem dX12_bound_47 : decode cX12_bound 47 = .ok (.if_icmp .lt 14, 3) := by decide +kernel
theorem dX12_bound_50 : decode cX12_bound 50 = .ok (.iload_n 2, 1) := by decide +kernel
theorem dX12_bound_51 : decode cX12_bound 51 = .ok (.aload_n 0, 1) := by decide +kernel
theorem dX12_bound_52 : decode cX12_bound 52 = .ok (.iload_n 1, 1) := by decide +kernel
theorem dX12_bound_53 : decode cX12_bound 53 = .ok (.iconst 1, 1) := by decide +kernel
theorem dX12_bound_54 : decode cX12_bound 54 = .ok (.iadd, 1) := by decide +kernel
theorem dX12_bound_55 : decode cX12_bound 55 = .ok (.invokevirtual 161, 3) := by decide +kernel
theorem dX12_bound_58 : decode cX12_bound 58 = .ok (.if_icmp .le 5, 3) := by decide +kernel
theorem dX12_bound_61 : decode cX12_bound 61 = .ok (.iconst 0, 1) := by decide +kernel
theorem dX12_bound_62 : decode cX12_bound 62 = .ok (.ireturn, 1) := by decide +kernel
theorem dX12_bound_63 : decode cX12_bound 63 = .ok (.aload_n 3, 1) := by decide +kernel
theorem dX12_bound_64 : decode cX12_bound 64 = .ok (.iload_n 2, 1) := by decide +kernel
theorem dX12_bound_65 : decode cX12_bound 65 = .ok (.putfield 164, 3) := by decide +kernel
theorem dX12_bound_68 : decode cX12_bound 68 = .ok (.aload_n 0, 1) := by decide +kernel
theorem dX12_bound_69 : decode cX12_bound 69 = .ok (.invokevirtual 140, 3) := by decide +kernel
theorem dX12_bound_72 : decode cX12_bound 72 = .ok (.iconst 1, 1) := by decide +kernel
theorem dX12_bound_73 : decode cX12_bound 73 = .ok (.ireturn, 1) := by decide +kernel
set_option maxRecDepth 20000 in
theorem ggX12_lastLetter_X12_volumeAt : GoodIn wsX12_lastLetter wsX12_volumeAt := goodIn_r _ [6, 7, 8, 9, 10, 5, 11, 19, 20, 21, 22, 23, 24, 25, 26, 27, 28, 29, 30, 31, 32, 33, 34, 35, 36, 37, 38] (by decide +kernel) (by decide +kernel)
set_option maxRecDepth 20000 in
theorem gX12_lastLetter_X12_volumeAt : GoodIn wsX12_lastLetter (wsV RX12 166 RX12 yX12_volumeAt wsX12_volumeAt) := goodIn_app (goodIn_of _ (by decide +kernel)) ggX12_lastLetter_X12_volumeAt
theorem dX12_lastLetter_0 : decode cX12_lastLetter 0 = .ok (.aload_n 0, 1) := by decide +kernel
theorem dX12_lastLetter_1 : decode cX12_lastLetter 1 = .ok (.iload_n 1, 1) := by decide +kernel
theorem dX12_lastLetter_2 : decode cX12_lastLetter 2 = .ok (.invokevirtual 166, 3) := by decide +kernel
theorem dX12_lastLetter_5 : decode cX12_lastLetter 5 = .ok (.astore_n 2, 1) := by decide +kernel
theorem dX12_lastLetter_6 : decode cX12_lastLetter 6 = .ok (.aload_n 2, 1) := by decide +kernel
theorem dX12_lastLetter_7 : decode cX12_lastLetter 7 = .ok (.ifnonnull 7, 3) := by decide +kernel
theorem dX12_lastLetter_10 : decode cX12_lastLetter 10 = .ok (.iconst 0, 1) := by decide +kernel
theorem dX12_lastLetter_11 : decode cX12_lastLetter 11 = .ok (.goto 7, 3) := by decide +kernel
theorem dX12_lastLetter_14 : decode cX12_lastLetter 14 = .ok (.aload_n 2, 1) := by decide +kernel
theorem dX12_lastLetter_15 : decode cX12_lastLetter 15 = .ok (.getfield 164, 3) := by decide +kernel
theorem dX12_lastLetter_18 : decode cX12_lastLetter 18 = .ok (.ireturn, 1) := by decide +kernel
theorem dX12_isVolume_0 : decode cX12_isVolume 0 = .ok (.iload_n 1, 1) := by decide +kernel
theorem dX12_isVolume_1 : decode cX12_isVolume 1 = .ok (.ifCond .lt 13, 3) := by decide +kernel
theorem dX12_isVolume_4 : decode cX12_isVolume 4 = .ok (.iload_n 1, 1) := by decide +kernel
theorem dX12_isVolume_5 : decode cX12_isVolume 5 = .ok (.bipush 6, 2) := by decide +kernel
theorem dX12_isVolume_7 : decode cX12_isVolume 7 = .ok (.if_icmp .ge 7, 3) := by decide +kernel
theorem dX12_isVolume_10 : decode cX12_isVolume 10 = .ok (.iconst 1, 1) := by decide +kernel
theorem dX12_isVolume_11 : decode cX12_isVolume 11 = .ok (.goto 4, 3) := by decide +kernel
theorem dX12_isVolume_14 : decode cX12_isVolume 14 = .ok (.iconst 0, 1) := by decide +kernel
theorem dX12_isVolume_15 : decode cX12_isVolume 15 = .ok (.ireturn, 1) := by decide +kernel
set_option maxRecDepth 20000 in
theorem ggX12_volumeAt_X12_isVolume : GoodIn wsX12_volumeAt wsX12_isVolume := goodIn_r _ [6] (by decide +kernel) (by decide +kernel)
set_option maxRecDepth 20000 in
theorem gX12_volumeAt_X12_isVolume : GoodIn wsX12_volumeAt (wsV RX12 126 RX12 yX12_isVolume wsX12_isVolume) := goodIn_app (goodIn_of _ (by decide +kernel)) ggX12_volumeAt_X12_isVolume
theorem dX12_volumeAt_0 : decode cX12_volumeAt 0 = .ok (.aload_n 0, 1) := by decide +kernel
theorem dX12_volumeAt_1 : decode cX12_volumeAt 1 = .ok (.iload_n 1, 1) := by decide +kernel
theorem dX12_volumeAt_2 : decode cX12_volumeAt 2 = .ok (.invokevirtual 126, 3) := by decide +kernel
theorem dX12_volumeAt_5 : decode cX12_volumeAt 5 = .ok (.ifCond .eq 12, 3) := by decide +kernel
theorem dX12_volumeAt_8 : decode cX12_volumeAt 8 = .ok (.aload_n 0, 1) := by decide +kernel
theorem dX12_volumeAt_9 : decode cX12_volumeAt 9 = .ok (.getfield 34, 3) := by decide +kernel
theorem dX12_volumeAt_12 : decode cX12_volumeAt 12 = .ok (.iload_n 1, 1) := by decide +kernel
theorem dX12_volumeAt_13 : decode cX12_volumeAt 13 = .ok (.aaload, 1) := by decide +kernel
theorem dX12_volumeAt_14 : decode cX12_volumeAt 14 = .ok (.goto 4, 3) := by decide +kernel
theorem dX12_volumeAt_17 : decode cX12_volumeAt 17 = .ok (.aconst_null, 1) := by decide +kernel
theorem dX12_volumeAt_18 : decode cX12_volumeAt 18 = .ok (.areturn, 1) := by decide +kernel
theorem dX12_isSet_0 : decode cX12_isSet 0 = .ok (.iload_n 1, 1) := by decide +kernel
theorem dX12_isSet_1 : decode cX12_isSet 1 = .ok (.ifCond .lt 18, 3) := by decide +kernel
theorem dX12_isSet_4 : decode cX12_isSet 4 = .ok (.aload_n 0, 1) := by decide +kernel
theorem dX12_isSet_5 : decode cX12_isSet 5 = .ok (.getfield 158, 3) := by decide +kernel
theorem dX12_isSet_8 : decode cX12_isSet 8 = .ok (.iload_n 1, 1) := by decide +kernel
theorem dX12_isSet_9 : decode cX12_isSet 9 = .ok (.ishr, 1) := by decide +kernel
theorem dX12_isSet_10 : decode cX12_isSet 10 = .ok (.iconst 1, 1) := by decide +kernel
theorem dX12_isSet_11 : decode cX12_isSet 11 = .ok (.iand, 1) := by decide +kernel
theorem dX12_isSet_12 : decode cX12_isSet 12 = .ok (.ifCond .eq 7, 3) := by decide +kernel
theorem dX12_isSet_15 : decode cX12_isSet 15 = .ok (.iconst 1, 1) := by decide +kernel
theorem dX12_isSet_16 : decode cX12_isSet 16 = .ok (.goto 4, 3) := by decide +kernel
theorem dX12_isSet_19 : decode cX12_isSet 19 = .ok (.iconst 0, 1) := by decide +kernel
theorem dX12_isSet_20 : decode cX12_isSet 20 = .ok (.ireturn, 1) := by decide +kernel
set_option maxRecDepth 20000 in
theorem ggX12_setVolumeAt_X12_volumeAt : GoodIn wsX12_setVolumeAt wsX12_volumeAt := goodIn_r _ [6, 7, 8, 9, 10, 5, 11, 19, 20, 21, 22, 23, 24, 25, 26, 27, 28, 29, 30, 31, 32, 33, 34, 35, 36, 37, 38] (by decide +kernel) (by decide +kernel)
set_option maxRecDepth 20000 in
theorem gX12_setVolumeAt_X12_volumeAt : GoodIn wsX12_setVolumeAt (wsV RX12 166 RX12 yX12_volumeAt wsX12_volumeAt) := goodIn_app (goodIn_of _ (by decide +kernel)) ggX12_setVolumeAt_X12_volumeAt
theorem dX12_setVolumeAt_0 : decode cX12_setVolumeAt 0 = .ok (.aload_n 0, 1) := by decide +kernel
theorem dX12_setVolumeAt_1 : decode cX12_setVolumeAt 1 = .ok (.iload_n 1, 1) := by decide +kernel
theorem dX12_setVolumeAt_2 : decode cX12_setVolumeAt 2 = .ok (.invokevirtual 166, 3) := by decide +kernel
theorem dX12_setVolumeAt_5 : decode cX12_setVolumeAt 5 = .ok (.astore_n 2, 1) := by decide +kernel
theorem dX12_setVolumeAt_6 : decode cX12_setVolumeAt 6 = .ok (.aload_n 2, 1) := by decide +kernel
theorem dX12_setVolumeAt_7 : decode cX12_setVolumeAt 7 = .ok (.ifnull 15, 3) := by decide +kernel
theorem dX12_setVolumeAt_10 : decode cX12_setVolumeAt 10 = .ok (.aload_n 2, 1) := by decide +kernel
theorem dX12_setVolumeAt_11 : decode cX12_setVolumeAt 11 = .ok (.getfield 170, 3) := by decide +kernel
theorem dX12_setVolumeAt_14 : decode cX12_setVolumeAt 14 = .ok (.iconst (-1), 1) := by decide +kernel
theorem dX12_setVolumeAt_15 : decode cX12_setVolumeAt 15 = .ok (.if_icmp .eq 7, 3) := by decide +kernel
theorem dX12_setVolumeAt_18 : decode cX12_setVolumeAt 18 = .ok (.aload_n 2, 1) := by decide +kernel
theorem dX12_setVolumeAt_19 : decode cX12_setVolumeAt 19 = .ok (.goto 4, 3) := by decide +kernel
theorem dX12_setVolumeAt_22 : decode cX12_setVolumeAt 22 = .ok (.aconst_null, 1) := by decide +kernel
theorem dX12_setVolumeAt_23 : decode cX12_setVolumeAt 23 = .ok (.areturn, 1) := by decide +kernel
set_option maxRecDepth 20000 in
theorem ggX12_article_X12_newEntry : GoodIn wsX12_article wsX12_newEntry := goodIn_r _ [9, 10, 11, 12, 13, 14, 15, 16, 17, 18, 19, 20, 21, 22, 23, 24, 25, 26, 27, 28, 29, 30, 31, 32, 33, 34, 35, 36, 37, 38, 39, 40, 41, 42, 43, 44, 45, 46, 47, 48, 49, 50, 51, 52, 53, 54, 55, 56, 57, 58, 59, 60, 61, 62, 63, 64, 65, 66, 67, 68, 69, 70, 71, 72, 73, 74, 75, 76, 77, 78, 79, 80, 81, 82, 83, 84, 85, 86, 87, 88, 89, 90, 91, 92, 93, 94, 95, 96, 97, 98, 99, 100, 101, 102, 103, 104, 105, 106, 107, 108, 109, 110, 111, 112, 8, 113, 114, 115, 116, 117, 118, 119, 120, 121, 122, 123, 124, 125, 126, 127, 128, 129, 130, 131, 132, 133, 134, 135, 136, 137, 138, 139, 140, 141, 142, 143, 144, 145, 146, 147, 148, 149, 150, 169, 170, 171, 172, 173, 174, 175, 176, 177, 178, 179, 180, 181, 182, 183, 184, 185, 186, 187, 188, 151, 152, 153, 154, 155, 156, 157, 158, 159, 160, 161, 162, 163, 164, 165, 166, 167, 168, 189, 190, 191, 192, 193, 194, 195, 196, 197, 198, 199, 200, 201, 202, 203, 204, 205, 206, 207, 208, 209, 210, 211, 212, 213] (by decide +kernel) (by decide +kernel)
set_option maxRecDepth 20000 in
theorem gX12_article_X12_newEntry : GoodIn wsX12_article (wsV RX12 173 RX12 yX12_newEntry wsX12_newEntry) := goodIn_app (goodIn_of _ (by decide +kernel)) ggX12_article_X12_newEntry
theorem dX12_article_0 : decode cX12_article 0 = .ok (.iload 4, 2) := by decide +kernel
theorem dX12_article_2 : decode cX12_article 2 = .ok (.sipush 10000, 3) := by decide +kernel
theorem dX12_article_5 : decode cX12_article 5 = .ok (.idiv, 1) := by decide +kernel
theorem dX12_article_6 : decode cX12_article 6 = .ok (.istore 5, 2) := by decide +kernel
theorem dX12_article_8 : decode cX12_article 8 = .ok (.iload 4, 2) := by decide +kernel
theorem dX12_article_10 : decode cX12_article 10 = .ok (.sipush 1000, 3) := by decide +kernel
theorem dX12_article_13 : decode cX12_article 13 = .ok (.idiv, 1) := by decide +kernel
theorem dX12_article_14 : decode cX12_article 14 = .ok (.bipush 10, 2) := by decide +kernel
theorem dX12_article_16 : decode cX12_article 16 = .ok (.irem, 1) := by decide +kernel
theorem dX12_article_17 : decode cX12_article 17 = .ok (.istore 6, 2) := by decide +kernel
theorem dX12_article_19 : decode cX12_article 19 = .ok (.iload 4, 2) := by decide +kernel
theorem dX12_article_21 : decode cX12_article 21 = .ok (.sipush 1000, 3) := by decide +kernel
theorem dX12_article_24 : decode cX12_article 24 = .ok (.irem, 1) := by decide +kernel
theorem dX12_article_25 : decode cX12_article 25 = .ok (.istore 7, 2) := by decide +kernel
theorem dX12_article_27 : decode cX12_article 27 = .ok (.iload 4, 2) := by decide +kernel
theorem dX12_article_29 : decode cX12_article 29 = .ok (.ifCond .lt 30, 3) := by decide +kernel
theorem dX12_article_32 : decode cX12_article 32 = .ok (.iload 5, 2) := by decide +kernel
theorem dX12_article_34 : decode cX12_article 34 = .ok (.iconst 2, 1) := by decide +kernel
theorem dX12_article_35 : decode cX12_article 35 = .ok (.if_icmp .gt 24, 3) := by decide +kernel
theorem dX12_article_38 : decode cX12_article 38 = .ok (.iload 6, 2) := by decide +kernel
theorem dX12_article_40 : decode cX12_article 40 = .ok (.bipush 7, 2) := by decide +kernel
theorem dX12_article_42 : decode cX12_article 42 = .ok (.if_icmp .gt 17, 3) := by decide +kernel
theorem dX12_article_45 : decode cX12_article 45 = .ok (.iload 7, 2) := by decide +kernel
theorem dX12_article_47 : decode cX12_article 47 = .ok (.iconst 1, 1) := by decide +kernel
theorem dX12_article_48 : decode cX12_article 48 = .ok (.if_icmp .lt 11, 3) := by decide +kernel
theorem dX12_article_51 : decode cX12_article 51 = .ok (.iload 7, 2) := by decide +kernel
theorem dX12_article_53 : decode cX12_article 53 = .ok (.sipush 200, 3) := by decide +kernel
theorem dX12_article_56 : decode cX12_article 56 = .ok (.if_icmp .le 5, 3) := by decide +kernel
theorem dX12_article_59 : decode cX12_article 59 = .ok (.iconst (-1), 1) := by decide +kernel
theorem dX12_article_60 : decode cX12_article 60 = .ok (.ireturn, 1) := by decide +kernel
theorem dX12_article_61 : decode cX12_article 61 = .ok (.aload_n 0, 1) := by decide +kernel
theorem dX12_article_62 : decode cX12_article 62 = .ok (.iconst 0, 1) := by decide +kernel
theorem dX12_article_63 : decode cX12_article 63 = .ok (.iload_n 1, 1) := by decide +kernel
theorem dX12_article_64 : decode cX12_article 64 = .ok (.iload_n 2, 1) := by decide +kernel
theorem dX12_article_65 : decode cX12_article 65 = .ok (.iload_n 3, 1) := by decide +kernel
theorem dX12_article_66 : decode cX12_article 66 = .ok (.invokevirtual 173, 3) := by decide +kernel
theorem dX12_article_69 : decode cX12_article 69 = .ok (.astore 8, 2) := by decide +kernel
theorem dX12_article_71 : decode cX12_article 71 = .ok (.aload 8, 2) := by decide +kernel
theorem dX12_article_73 : decode cX12_article 73 = .ok (.ifnonnull 5, 3) := by decide +kernel
theorem dX12_article_76 : decode cX12_article 76 = .ok (.iconst (-1), 1) := by decide +kernel
theorem dX12_article_77 : decode cX12_article 77 = .ok (.ireturn, 1) := by decide +kernel
theorem dX12_article_78 : decode cX12_article 78 = .ok (.aload 8, 2) := by decide +kernel
theorem dX12_article_80 : decode cX12_article 80 = .ok (.iload 5, 2) := by decide +kernel
theorem dX12_article_82 : decode cX12_article 82 = .ok (.putfield 177, 3) := by decide +kernel
theorem dX12_article_85 : decode cX12_article 85 = .ok (.aload 8, 2) := by decide +kernel
theorem dX12_article_87 : decode cX12_article 87 = .ok (.iload 6, 2) := by decide +kernel
theorem dX12_article_89 : decode cX12_article 89 = .ok (.putfield 180, 3) := by decide +kernel
theorem dX12_article_92 : decode cX12_article 92 = .ok (.aload 8, 2) := by decide +kernel
theorem dX12_article_94 : decode cX12_article 94 = .ok (.iload 7, 2) := by decide +kernel
theorem dX12_article_96 : decode cX12_article 96 = .ok (.putfield 183, 3) := by decide +kernel
theorem dX12_article_99 : decode cX12_article 99 = .ok (.aload 8, 2) := by decide +kernel
theorem dX12_article_101 : decode cX12_article 101 = .ok (.getfield 186, 3) := by decide +kernel
theorem dX12_article_104 : decode cX12_article 104 = .ok (.ireturn, 1) := by decide +kernel
set_option maxRecDepth 20000 in
theorem ggX12_pointer_X12_entryAt : GoodIn wsX12_pointer wsX12_entryAt := goodIn_r _ [7, 8, 9, 171, 172, 173, 174, 175, 176, 177, 178, 179, 180, 181, 182, 183, 184, 185, 186, 187, 188, 189, 190] (by decide +kernel) (by decide +kernel)
set_option maxRecDepth 20000 in
theorem gX12_pointer_X12_entryAt : GoodIn wsX12_pointer (wsV RX12 189 RX12 yX12_entryAt wsX12_entryAt) := goodIn_app (goodIn_of _ (by decide +kernel)) ggX12_pointer_X12_entryAt
set_option maxRecDepth 20000 in
theorem ggX12_pointer_X12_newEntry : GoodIn wsX12_pointer wsX12_newEntry := goodIn_r _ [13, 8, 14, 15, 16, 9, 17, 18, 19, 20, 21, 22, 23, 24, 25, 26, 27, 28, 29, 30, 31, 32, 33, 34, 35, 36, 37, 38, 39, 40, 41, 42, 43, 44, 45, 46, 47, 48, 49, 50, 51, 52, 53, 54, 55, 56, 57, 58, 59, 60, 61, 62, 63, 64, 65, 66, 67, 68, 69, 70, 71, 72, 73, 74, 75, 76, 77, 78, 79, 80, 81, 82, 83, 84, 85, 86, 87, 88, 89, 90, 91, 92, 93, 94, 95, 96, 97, 98, 99, 100, 101, 102, 103, 104, 105, 106, 107, 108, 109, 110, 111, 112, 113, 114, 6, 115, 116, 117, 118, 119, 120, 121, 122, 123, 124, 125, 126, 127, 128, 129, 130, 131, 132, 133, 134, 135, 136, 137, 138, 139, 140, 141, 142, 143, 144, 145, 146, 147, 148, 149, 150, 151, 152, 171, 172, 173, 174, 175, 176, 177, 178, 179, 180, 181, 182, 183, 184, 185, 186, 187, 188, 189, 190, 153, 154, 155, 156, 157, 158, 159, 160, 161, 162, 163, 164, 165, 166, 167, 168, 169, 170, 191, 192, 193, 194, 195, 196, 197, 198, 199, 200, 201, 202, 203, 204, 205, 206, 207, 208, 209, 210, 211, 212, 213, 214, 215] (by decide +kernel) (by decide +kernel)
set_option maxRecDepth 20000 in
theorem gX12_pointer_X12_newEntry : GoodIn wsX12_pointer (wsV RX12 173 RX12 yX12_newEntry wsX12_newEntry) := goodIn_app (goodIn_of _ (by decide +kernel)) ggX12_pointer_X12_newEntry
theorem dX12_pointer_0 : decode cX12_pointer 0 = .ok (.aload_n 0, 1) := by decide +kernel
theorem dX12_pointer_1 : decode cX12_pointer 1 = .ok (.iload 4, 2) := by decide +kernel
theorem dX12_pointer_3 : decode cX12_pointer 3 = .ok (.invokevirtual 189, 3) := by decide +kernel
theorem dX12_pointer_6 : decode cX12_pointer 6 = .ok (.ifnonnull 5, 3) := by decide +kernel
theorem dX12_pointer_9 : decode cX12_pointer 9 = .ok (.iconst (-1), 1) := by decide +kernel
theorem dX12_pointer_10 : decode cX12_pointer 10 = .ok (.ireturn, 1) := by decide +kernel
theorem dX12_pointer_11 : decode cX12_pointer 11 = .ok (.aload_n 0, 1) := by decide +kernel
theorem dX12_pointer_12 : decode cX12_pointer 12 = .ok (.iconst 1, 1) := by decide +kernel
theorem dX12_pointer_13 : decode cX12_pointer 13 = .ok (.iload_n 1, 1) := by decide +kernel
theorem dX12_pointer_14 : decode cX12_pointer 14 = .ok (.iload_n 2, 1) := by decide +kernel
theorem dX12_pointer_15 : decode cX12_pointer 15 = .ok (.iload_n 3, 1) := by decide +kernel
theorem dX12_pointer_16 : decode cX12_pointer 16 = .ok (.invokevirtual 173, 3) := by decide +kernel
theorem dX12_pointer_19 : decode cX12_pointer 19 = .ok (.astore 5, 2) := by decide +kernel
theorem dX12_pointer_21 : decode cX12_pointer 21 = .ok (.aload 5, 2) := by decide +kernel
theorem dX12_pointer_23 : decode cX12_pointer 23 = .ok (.ifnonnull 5, 3) := by decide +kernel
theorem dX12_pointer_26 : decode cX12_pointer 26 = .ok (.iconst (-1), 1) := by decide +kernel
theorem dX12_pointer_27 : decode cX12_pointer 27 = .ok (.ireturn, 1) := by decide +kernel
theorem dX12_pointer_28 : decode cX12_pointer 28 = .ok (.aload 5, 2) := by decide +kernel
theorem dX12_pointer_30 : decode cX12_pointer 30 = .ok (.iload 4, 2) := by decide +kernel
theorem dX12_pointer_32 : decode cX12_pointer 32 = .ok (.putfield 193, 3) := by decide +kernel
theorem dX12_pointer_35 : decode cX12_pointer 35 = .ok (.aload 5, 2) := by decide +kernel
theorem dX12_pointer_37 : decode cX12_pointer 37 = .ok (.getfield 186, 3) := by decide +kernel
theorem dX12_pointer_40 : decode cX12_pointer 40 = .ok (.ireturn, 1) := by decide +kernel
set_option maxRecDepth 20000 in
theorem ggX12_plate_X12_areEntries : GoodIn wsX12_plate wsX12_areEntries := goodIn_r _ [6, 7, 8, 9, 5, 10, 11, 12, 174, 175, 176, 177, 178, 179, 180, 181, 182, 183, 184, 185, 186, 187, 188, 189, 190, 191, 192, 193] (by decide +kernel) (by decide +kernel)
set_option maxRecDepth 20000 in
theorem gX12_plate_X12_areEntries : GoodIn wsX12_plate (wsV RX12 196 RX12 yX12_areEntries wsX12_areEntries) := goodIn_app (goodIn_of _ (by decide +kernel)) ggX12_plate_X12_areEntries
set_option maxRecDepth 20000 in
theorem ggX12_plate_X12_newEntry : GoodIn wsX12_plate wsX12_newEntry := goodIn_r _ [16, 11, 17, 18, 19, 12, 20, 21, 22, 23, 24, 25, 26, 27, 28, 29, 30, 31, 32, 33, 34, 35, 36, 37, 38, 39, 40, 41, 42, 43, 44, 45, 46, 47, 48, 49, 50, 51, 52, 53, 54, 55, 56, 57, 58, 59, 60, 61, 62, 63, 64, 65, 66, 67, 68, 69, 70, 71, 72, 73, 74, 75, 76, 77, 78, 79, 80, 81, 82, 83, 84, 85, 86, 87, 88, 89, 90, 91, 92, 93, 94, 95, 96, 97, 98, 99, 100, 101, 102, 103, 104, 105, 106, 107, 108, 109, 110, 111, 112, 113, 114, 115, 116, 117, 5, 118, 119, 120, 121, 122, 123, 124, 125, 126, 127, 128, 129, 130, 131, 132, 133, 134, 135, 136, 137, 138, 139, 140, 141, 142, 143, 144, 145, 146, 147, 148, 149, 150, 151, 152, 153, 154, 155, 174, 175, 176, 177, 178, 179, 180, 181, 182, 183, 184, 185, 186, 187, 188, 189, 190, 191, 192, 193, 156, 157, 158, 159, 160, 161, 162, 163, 164, 165, 166, 167, 168, 169, 170, 171, 172, 173, 194, 195, 196, 197, 198, 199, 200, 201, 202, 203, 204, 205, 206, 207, 208, 209, 210, 211, 212, 213, 214, 215, 216, 217, 218] (by decide +kernel) (by decide +kernel)
set_option maxRecDepth 20000 in
theorem gX12_plate_X12_newEntry : GoodIn wsX12_plate (wsV RX12 173 RX12 yX12_newEntry wsX12_newEntry) := goodIn_app (goodIn_of _ (by decide +kernel)) ggX12_plate_X12_newEntry
theorem dX12_plate_0 : decode cX12_plate 0 = .ok (.aload_n 0, 1) := by decide +kernel
theorem dX12_plate_1 : decode cX12_plate 1 = .ok (.iload 4, 2) := by decide +kernel
theorem dX12_plate_3 : decode cX12_plate 3 = .ok (.iload 5, 2) := by decide +kernel
theorem dX12_plate_5 : decode cX12_plate 5 = .ok (.invokevirtual 196, 3) := by decide +kernel
theorem dX12_plate_8 : decode cX12_plate 8 = .ok (.ifCond .ne 5, 3) := by decide +kernel
theorem dX12_plate_11 : decode cX12_plate 11 = .ok (.iconst (-1), 1) := by decide +kernel
theorem dX12_plate_12 : decode cX12_plate 12 = .ok (.ireturn, 1) := by decide +kernel
theorem dX12_plate_13 : decode cX12_plate 13 = .ok (.aload_n 0, 1) := by decide +kernel
theorem dX12_plate_14 : decode cX12_plate 14 = .ok (.iconst 2, 1) := by decide +kernel
theorem dX12_plate_15 : decode cX12_plate 15 = .ok (.iload_n 1, 1) := by decide +kernel
theorem dX12_plate_16 : decode cX12_plate 16 = .ok (.iload_n 2, 1) := by decide +kernel
theorem dX12_plate_17 : decode cX12_plate 17 = .ok (.iload_n 3, 1) := by decide +kernel
theorem dX12_plate_18 : decode cX12_plate 18 = .ok (.invokevirtual 173, 3) := by decide +kernel
theorem dX12_plate_21 : decode cX12_plate 21 = .ok (.astore 6, 2) := by decide +kernel
theorem dX12_plate_23 : decode cX12_plate 23 = .ok (.aload 6, 2) := by decide +kernel
theorem dX12_plate_25 : decode cX12_plate 25 = .ok (.ifnonnull 7, 3) := by decide +kernel
theorem dX12_plate_28 : decode cX12_plate 28 = .ok (.iconst (-1), 1) := by decide +kernel
theorem dX12_plate_29 : decode cX12_plate 29 = .ok (.goto 8, 3) := by decide +kernel
theorem dX12_plate_32 : decode cX12_plate 32 = .ok (.aload 6, 2) := by decide +kernel
theorem dX12_plate_34 : decode cX12_plate 34 = .ok (.getfield 186, 3) := by decide +kernel
theorem dX12_plate_37 : decode cX12_plate 37 = .ok (.ireturn, 1) := by decide +kernel
set_option maxRecDepth 20000 in
theorem ggX12_areEntries_X12_entryAt : GoodIn wsX12_areEntries wsX12_entryAt := goodIn_r _ [5, 6, 7, 8, 9, 10, 11, 12, 13, 14, 15, 16, 17, 18, 19, 20, 21, 22, 23, 24, 25, 26, 27] (by decide +kernel) (by decide +kernel)
set_option maxRecDepth 20000 in
theorem gX12_areEntries_X12_entryAt : GoodIn wsX12_areEntries (wsV RX12 189 RX12 yX12_entryAt wsX12_entryAt) := goodIn_app (goodIn_of _ (by decide +kernel)) ggX12_areEntries_X12_entryAt
theorem dX12_areEntries_0 : decode cX12_areEntries 0 = .ok (.iload_n 1, 1) := by decide +kernel
theorem dX12_areEntries_1 : decode cX12_areEntries 1 = .ok (.ifCond .lt 13, 3) := by decide +kernel
theorem dX12_areEntries_4 : decode cX12_areEntries 4 = .ok (.iload_n 2, 1) := by decide +kernel
theorem dX12_areEntries_5 : decode cX12_areEntries 5 = .ok (.iconst 1, 1) := by decide +kernel
theorem dX12_areEntries_6 : decode cX12_areEntries 6 = .ok (.if_icmp .lt 8, 3) := by decide +kernel
theorem dX12_areEntries_9 : decode cX12_areEntries 9 = .ok (.iload_n 2, 1) := by decide +kernel
theorem dX12_areEntries_10 : decode cX12_areEntries 10 = .ok (.iconst 4, 1) := by decide +kernel
theorem dX12_areEntries_11 : decode cX12_areEntries 11 = .ok (.if_icmp .le 5, 3) := by decide +kernel
theorem dX12_areEntries_14 : decode cX12_areEntries 14 = .ok (.iconst 0, 1) := by decide +kernel
theorem dX12_areEntries_15 : decode cX12_areEntries 15 = .ok (.ireturn, 1) := by decide +kernel
theorem dX12_areEntries_16 : decode cX12_areEntries 16 = .ok (.lconst 0, 1) := by decide +kernel
theorem dX12_areEntries_17 : decode cX12_areEntries 17 = .ok (.lstore_n 3, 1) := by decide +kernel
theorem dX12_areEntries_18 : decode cX12_areEntries 18 = .ok (.iload_n 1, 1) := by decide +kernel
theorem dX12_areEntries_19 : decode cX12_areEntries 19 = .ok (.istore 5, 2) := by decide +kernel
theorem dX12_areEntries_21 : decode cX12_areEntries 21 = .ok (.iconst 0, 1) := by decide +kernel
theorem dX12_areEntries_22 : decode cX12_areEntries 22 = .ok (.istore 6, 2) := by decide +kernel
theorem dX12_areEntries_24 : decode cX12_areEntries 24 = .ok (.iload 6, 2) := by decide +kernel
theorem dX12_areEntries_26 : decode cX12_areEntries 26 = .ok (.iload_n 2, 1) := by decide +kernel
theorem dX12_areEntries_27 : decode cX12_areEntries 27 = .ok (.if_icmp .ge 52, 3) := by decide +kernel
theorem dX12_areEntries_30 : decode cX12_areEntries 30 = .ok (.iload 5, 2) := by decide +kernel
theorem dX12_areEntries_32 : decode cX12_areEntries 32 = .ok (.bipush 100, 2) := by decide +kernel
theorem dX12_areEntries_34 : decode cX12_areEntries 34 = .ok (.irem, 1) := by decide +kernel
theorem dX12_areEntries_35 : decode cX12_areEntries 35 = .ok (.istore 7, 2) := by decide +kernel
theorem dX12_areEntries_37 : decode cX12_areEntries 37 = .ok (.aload_n 0, 1) := by decide +kernel
theorem dX12_areEntries_38 : decode cX12_areEntries 38 = .ok (.iload 7, 2) := by decide +kernel
theorem dX12_areEntries_40 : decode cX12_areEntries 40 = .ok (.invokevirtual 189, 3) := by decide +kernel
theorem dX12_areEntries_43 : decode cX12_areEntries 43 = .ok (.ifnull 14, 3) := by decide +kernel
theorem dX12_areEntries_46 : decode cX12_areEntries 46 = .ok (.lload_n 3, 1) := by decide +kernel
theorem dX12_areEntries_47 : decode cX12_areEntries 47 = .ok (.iload 7, 2) := by decide +kernel
theorem dX12_areEntries_49 : decode cX12_areEntries 49 = .ok (.lshr, 1) := by decide +kernel
theorem dX12_areEntries_50 : decode cX12_areEntries 50 = .ok (.lconst 1, 1) := by decide +kernel
theorem dX12_areEntries_51 : decode cX12_areEntries 51 = .ok (.land, 1) := by decide +kernel
theorem dX12_areEntries_52 : decode cX12_areEntries 52 = .ok (.lconst 0, 1) := by decide +kernel
theorem dX12_areEntries_53 : decode cX12_areEntries 53 = .ok (.lcmp, 1) := by decide +kernel
theorem dX12_areEntries_54 : decode cX12_areEntries 54 = .ok (.ifCond .eq 5, 3) := by decide +kernel
theorem dX12_areEntries_57 : decode cX12_areEntries 57 = .ok (.iconst 0, 1) := by decide +kernel
theorem dX12_areEntries_58 : decode cX12_areEntries 58 = .ok (.ireturn, 1) := by decide +kernel
theorem dX12_areEntries_59 : decode cX12_areEntries 59 = .ok (.lload_n 3, 1) := by decide +kernel
theorem dX12_areEntries_60 : decode cX12_areEntries 60 = .ok (.lconst 1, 1) := by decide +kernel
theorem dX12_areEntries_61 : decode cX12_areEntries 61 = .ok (.iload 7, 2) := by decide +kernel
theorem dX12_areEntries_63 : decode cX12_areEntries 63 = .ok (.lshl, 1) := by decide +kernel
theorem dX12_areEntries_64 : decode cX12_areEntries 64 = .ok (.lor, 1) := by decide +kernel
theorem dX12_areEntries_65 : decode cX12_areEntries 65 = .ok (.lstore_n 3, 1) := by decide +kernel
theorem dX12_areEntries_66 : decode cX12_areEntries 66 = .ok (.iload 5, 2) := by decide +kernel
theorem dX12_areEntries_68 : decode cX12_areEntries 68 = .ok (.bipush 100, 2) := by decide +kernel
theorem dX12_areEntries_70 : decode cX12_areEntries 70 = .ok (.idiv, 1) := by decide +kernel
theorem dX12_areEntries_71 : decode cX12_areEntries 71 = .ok (.istore 5, 2) := by decide +kernel
theorem dX12_areEntries_73 : decode cX12_areEntries 73 = .ok (.iinc 6 1, 3) := by decide +kernel
theorem dX12_areEntries_76 : decode cX12_areEntries 76 = .ok (.goto (-52), 3) := by decide +kernel
theorem dX12_areEntries_79 : decode cX12_areEntries 79 = .ok (.iload 5, 2) := by decide +kernel
theorem dX12_areEntries_81 : decode cX12_areEntries 81 = .ok (.ifCond .ne 7, 3) := by decide +kernel
theorem dX12_areEntries_84 : decode cX12_areEntries 84 = .ok (.iconst 1, 1) := by decide +kernel
theorem dX12_areEntries_85 : decode cX12_areEntries 85 = .ok (.goto 4, 3) := by decide +kernel
theorem dX12_areEntries_88 : decode cX12_areEntries 88 = .ok (.iconst 0, 1) := by decide +kernel
theorem dX12_areEntries_89 : decode cX12_areEntries 89 = .ok (.ireturn, 1) := by decide +kernel
set_option maxRecDepth 20000 in
theorem ggX12_newEntry_X0_headingSize : GoodIn wsX12_newEntry wsX0_headingSize := goodIn_r _ [11, 12, 13, 4, 14, 15, 16, 17, 18, 19, 20] (by decide +kernel) (by decide +kernel)
set_option maxRecDepth 20000 in
theorem gX12_newEntry_X0_headingSize : GoodIn wsX12_newEntry (va_wsS RX12 200 yX0_headingSize wsX0_headingSize) := goodIn_app (goodIn_of _ (by decide +kernel)) ggX12_newEntry_X0_headingSize
set_option maxRecDepth 20000 in
theorem ggX12_newEntry_X0_init : GoodIn wsX12_newEntry wsX0_init := goodIn_r _ [23, 24, 25, 26, 27, 28, 29, 30, 31, 32, 33, 34, 35, 36, 37, 38, 163, 164, 165, 166, 167, 168, 169, 170, 171, 172, 173, 174, 175, 176, 177, 178, 179, 180] (by decide +kernel) (by decide +kernel)
set_option maxRecDepth 20000 in
theorem gX12_newEntry_X0_init : GoodIn wsX12_newEntry (wsX0_init) := ggX12_newEntry_X0_init
set_option maxRecDepth 20000 in
theorem ggX12_newEntry_X0_readHeading : GoodIn wsX12_newEntry wsX0_readHeading := goodIn_r _ [42, 38, 43, 44, 12, 13, 4, 14, 163, 164, 165, 166, 167, 168, 169, 170, 171, 172, 173, 174, 175, 176, 177, 178, 179, 180] (by decide +kernel) (by decide +kernel)
set_option maxRecDepth 20000 in
theorem gX12_newEntry_X0_readHeading : GoodIn wsX12_newEntry (wsV RX12 209 RX0 yX0_readHeading wsX0_readHeading) := goodIn_app (goodIn_of _ (by decide +kernel)) ggX12_newEntry_X0_readHeading
set_option maxRecDepth 20000 in
theorem ggX12_newEntry_X6_take : GoodIn wsX12_newEntry wsX6_take := goodIn_r _ [49, 50, 51, 52, 53, 54, 55, 56, 57, 58, 59, 60, 61, 62, 63, 64, 65, 66, 67, 68, 69, 70, 71, 72, 73, 74, 75, 76, 77, 78, 79, 80, 81, 82, 83, 84, 85, 86, 87, 88, 89, 90, 91, 92, 93, 94, 95, 96, 35, 97, 98, 99, 100, 181, 182, 183, 184, 185, 186, 187, 188, 189, 190, 191, 192, 193, 194, 195, 196, 197, 198] (by decide +kernel) (by decide +kernel)
set_option maxRecDepth 20000 in
theorem gX12_newEntry_X6_take : GoodIn wsX12_newEntry (wsV RX12 212 RX6 yX6_take wsX6_take) := goodIn_app (goodIn_of _ (by decide +kernel)) ggX12_newEntry_X6_take
set_option maxRecDepth 20000 in
theorem ggX12_newEntry_X12_volumeByKey : GoodIn wsX12_newEntry wsX12_volumeByKey := goodIn_r _ [105, 6, 106, 107, 108, 109, 110, 48, 111, 52, 112, 53, 113, 50, 51, 114, 115, 116, 117, 59, 118, 67, 69, 70, 71, 72, 73, 74, 68, 62, 119, 120, 121, 78, 122, 123, 124, 125, 126, 4, 127, 38, 128, 19, 20, 129, 130, 131, 104, 132, 133, 134, 135, 136, 137, 138, 139, 140, 141, 142, 143, 144, 145, 146, 147, 148, 149, 150, 151, 152, 153, 154, 155, 156, 157, 158, 159, 160, 161, 162, 163, 164, 165, 166, 167, 168, 169, 170, 171, 172, 173, 174, 175, 176, 177, 178, 179, 180, 181, 182, 183, 184, 185, 186, 187, 188, 189, 190, 191, 192, 193, 194, 195, 196, 197, 198, 199, 200, 201, 202, 203, 204, 205] (by decide +kernel) (by decide +kernel)
set_option maxRecDepth 20000 in
theorem gX12_newEntry_X12_volumeByKey : GoodIn wsX12_newEntry (wsV RX12 216 RX12 yX12_volumeByKey wsX12_volumeByKey) := goodIn_app (goodIn_of _ (by decide +kernel)) ggX12_newEntry_X12_volumeByKey
theorem dX12_newEntry_0 : decode cX12_newEntry 0 = .ok (.iload_n 2, 1) := by decide +kernel
theorem dX12_newEntry_1 : decode cX12_newEntry 1 = .ok (.iload_n 3, 1) := by decide +kernel
theorem dX12_newEntry_2 : decode cX12_newEntry 2 = .ok (.iload 4, 2) := by decide +kernel
theorem dX12_newEntry_4 : decode cX12_newEntry 4 = .ok (.invokestatic 200, 3) := by decide +kernel
theorem dX12_newEntry_7 : decode cX12_newEntry 7 = .ok (.istore 5, 2) := by decide +kernel
theorem dX12_newEntry_9 : decode cX12_newEntry 9 = .ok (.iload 5, 2) := by decide +kernel
theorem dX12_newEntry_11 : decode cX12_newEntry 11 = .ok (.iconst (-1), 1) := by decide +kernel
theorem dX12_newEntry_12 : decode cX12_newEntry 12 = .ok (.if_icmp .eq 12, 3) := by decide +kernel
theorem dX12_newEntry_15 : decode cX12_newEntry 15 = .ok (.aload_n 0, 1) := by decide +kernel
theorem dX12_newEntry_16 : decode cX12_newEntry 16 = .ok (.getfield 203, 3) := by decide +kernel
theorem dX12_newEntry_19 : decode cX12_newEntry 19 = .ok (.bipush 60, 2) := by decide +kernel
theorem dX12_newEntry_21 : decode cX12_newEntry 21 = .ok (.if_icmp .lt 5, 3) := by decide +kernel
theorem dX12_newEntry_24 : decode cX12_newEntry 24 = .ok (.aconst_null, 1) := by decide +kernel
theorem dX12_newEntry_25 : decode cX12_newEntry 25 = .ok (.areturn, 1) := by decide +kernel
theorem dX12_newEntry_26 : decode cX12_newEntry 26 = .ok (.new 41, 3) := by decide +kernel
theorem dX12_newEntry_29 : decode cX12_newEntry 29 = .ok (.dup, 1) := by decide +kernel
theorem dX12_newEntry_30 : decode cX12_newEntry 30 = .ok (.aload_n 0, 1) := by decide +kernel
theorem dX12_newEntry_31 : decode cX12_newEntry 31 = .ok (.getfield 203, 3) := by decide +kernel
theorem dX12_newEntry_34 : decode cX12_newEntry 34 = .ok (.iload_n 1, 1) := by decide +kernel
theorem dX12_newEntry_35 : decode cX12_newEntry 35 = .ok (.iload 5, 2) := by decide +kernel
theorem dX12_newEntry_37 : decode cX12_newEntry 37 = .ok (.invokespecial 206, 3) := by decide +kernel
theorem dX12_newEntry_40 : decode cX12_newEntry 40 = .ok (.astore 6, 2) := by decide +kernel
theorem dX12_newEntry_42 : decode cX12_newEntry 42 = .ok (.aload 6, 2) := by decide +kernel
theorem dX12_newEntry_44 : decode cX12_newEntry 44 = .ok (.iload_n 2, 1) := by decide +kernel
theorem dX12_newEntry_45 : decode cX12_newEntry 45 = .ok (.iload_n 3, 1) := by decide +kernel
theorem dX12_newEntry_46 : decode cX12_newEntry 46 = .ok (.iload 4, 2) := by decide +kernel
theorem dX12_newEntry_48 : decode cX12_newEntry 48 = .ok (.invokevirtual 209, 3) := by decide +kernel
theorem dX12_newEntry_51 : decode cX12_newEntry 51 = .ok (.aload_n 0, 1) := by decide +kernel
theorem dX12_newEntry_52 : decode cX12_newEntry 52 = .ok (.getfield 43, 3) := by decide +kernel
theorem dX12_newEntry_55 : decode cX12_newEntry 55 = .ok (.aload_n 0, 1) := by decide +kernel
theorem dX12_newEntry_56 : decode cX12_newEntry 56 = .ok (.getfield 203, 3) := by decide +kernel
theorem dX12_newEntry_59 : decode cX12_newEntry 59 = .ok (.aload 6, 2) := by decide +kernel
theorem dX12_newEntry_61 : decode cX12_newEntry 61 = .ok (.aastore, 1) := by decide +kernel
theorem dX12_newEntry_62 : decode cX12_newEntry 62 = .ok (.aload_n 0, 1) := by decide +kernel
theorem dX12_newEntry_63 : decode cX12_newEntry 63 = .ok (.dup, 1) := by decide +kernel
theorem dX12_newEntry_64 : decode cX12_newEntry 64 = .ok (.getfield 203, 3) := by decide +kernel
theorem dX12_newEntry_67 : decode cX12_newEntry 67 = .ok (.iconst 1, 1) := by decide +kernel
theorem dX12_newEntry_68 : decode cX12_newEntry 68 = .ok (.iadd, 1) := by decide +kernel
theorem dX12_newEntry_69 : decode cX12_newEntry 69 = .ok (.putfield 203, 3) := by decide +kernel
theorem dX12_newEntry_72 : decode cX12_newEntry 72 = .ok (.aload_n 0, 1) := by decide +kernel
theorem dX12_newEntry_73 : decode cX12_newEntry 73 = .ok (.getfield 28, 3) := by decide +kernel
theorem dX12_newEntry_76 : decode cX12_newEntry 76 = .ok (.iconst (-1), 1) := by decide +kernel
theorem dX12_newEntry_77 : decode cX12_newEntry 77 = .ok (.aload_n 0, 1) := by decide +kernel
theorem dX12_newEntry_78 : decode cX12_newEntry 78 = .ok (.getfield 133, 3) := by decide +kernel
theorem dX12_newEntry_81 : decode cX12_newEntry 81 = .ok (.invokevirtual 212, 3) := by decide +kernel
theorem dX12_newEntry_84 : decode cX12_newEntry 84 = .ok (.aload 6, 2) := by decide +kernel
theorem dX12_newEntry_86 : decode cX12_newEntry 86 = .ok (.aload_n 0, 1) := by decide +kernel
theorem dX12_newEntry_87 : decode cX12_newEntry 87 = .ok (.aload 6, 2) := by decide +kernel
theorem dX12_newEntry_89 : decode cX12_newEntry 89 = .ok (.invokevirtual 216, 3) := by decide +kernel
theorem dX12_newEntry_92 : decode cX12_newEntry 92 = .ok (.putfield 220, 3) := by decide +kernel
theorem dX12_newEntry_95 : decode cX12_newEntry 95 = .ok (.aload 6, 2) := by decide +kernel
theorem dX12_newEntry_97 : decode cX12_newEntry 97 = .ok (.areturn, 1) := by decide +kernel
set_option maxRecDepth 20000 in
theorem ggX12_sortIntoVolumes_X6_take : GoodIn wsX12_sortIntoVolumes wsX6_take := goodIn_r _ [9, 10, 11, 12, 13, 14, 15, 16, 17, 18, 19, 20, 21, 22, 23, 24, 25, 26, 27, 28, 29, 30, 31, 32, 33, 34, 35, 36, 37, 38, 39, 40, 41, 42, 43, 44, 45, 46, 47, 48, 49, 50, 51, 52, 53, 54, 55, 56, 57, 58, 59, 60, 61, 151, 152, 153, 154, 155, 156, 157, 158, 159, 160, 161, 162, 163, 164, 165, 166, 167, 168] (by decide +kernel) (by decide +kernel)
set_option maxRecDepth 20000 in
theorem gX12_sortIntoVolumes_X6_take : GoodIn wsX12_sortIntoVolumes (wsV RX12 212 RX6 yX6_take wsX6_take) := goodIn_app (goodIn_of _ (by decide +kernel)) ggX12_sortIntoVolumes_X6_take
set_option maxRecDepth 20000 in
theorem ggX12_sortIntoVolumes_X12_entryAt : GoodIn wsX12_sortIntoVolumes wsX12_entryAt := goodIn_r _ [66, 3, 67, 113, 114, 115, 116, 117, 118, 119, 120, 121, 122, 123, 124, 125, 126, 127, 128, 129, 130, 131, 132] (by decide +kernel) (by decide +kernel)
set_option maxRecDepth 20000 in
theorem gX12_sortIntoVolumes_X12_entryAt : GoodIn wsX12_sortIntoVolumes (wsV RX12 189 RX12 yX12_entryAt wsX12_entryAt) := goodIn_app (goodIn_of _ (by decide +kernel)) ggX12_sortIntoVolumes_X12_entryAt
set_option maxRecDepth 20000 in
theorem ggX12_sortIntoVolumes_X12_volumeByKey : GoodIn wsX12_sortIntoVolumes wsX12_volumeByKey := goodIn_r _ [71, 1, 72, 73, 74, 75, 76, 8, 77, 12, 78, 13, 79, 10, 11, 80, 81, 82, 83, 19, 84, 27, 29, 30, 31, 32, 33, 34, 28, 22, 85, 86, 87, 38, 88, 89, 90, 91, 92, 93, 94, 95, 96, 97, 98, 99, 100, 101, 65, 102, 103, 104, 105, 106, 107, 108, 109, 110, 111, 112, 113, 114, 115, 116, 117, 118, 119, 120, 121, 122, 123, 124, 125, 126, 127, 128, 129, 130, 131, 132, 133, 134, 135, 136, 137, 138, 139, 140, 141, 142, 143, 144, 145, 146, 147, 148, 149, 150, 151, 152, 153, 154, 155, 156, 157, 158, 159, 160, 161, 162, 163, 164, 165, 166, 167, 168, 169, 170, 171, 172, 173, 174, 175] (by decide +kernel) (by decide +kernel)
set_option maxRecDepth 20000 in
theorem gX12_sortIntoVolumes_X12_volumeByKey : GoodIn wsX12_sortIntoVolumes (wsV RX12 216 RX12 yX12_volumeByKey wsX12_volumeByKey) := goodIn_app (goodIn_of _ (by decide +kernel)) ggX12_sortIntoVolumes_X12_volumeByKey
theorem dX12_sortIntoVolumes_0 : decode cX12_sortIntoVolumes 0 = .ok (.aload_n 0, 1) := by decide +kernel
theorem dX12_sortIntoVolumes_1 : decode cX12_sortIntoVolumes 1 = .ok (.getfield 28, 3) := by decide +kernel
theorem dX12_sortIntoVolumes_4 : decode cX12_sortIntoVolumes 4 = .ok (.iconst (-1), 1) := by decide +kernel
theorem dX12_sortIntoVolumes_5 : decode cX12_sortIntoVolumes 5 = .ok (.aload_n 0, 1) := by decide +kernel
theorem dX12_sortIntoVolumes_6 : decode cX12_sortIntoVolumes 6 = .ok (.getfield 133, 3) := by decide +kernel
theorem dX12_sortIntoVolumes_9 : decode cX12_sortIntoVolumes 9 = .ok (.invokevirtual 212, 3) := by decide +kernel
theorem dX12_sortIntoVolumes_12 : decode cX12_sortIntoVolumes 12 = .ok (.iconst 0, 1) := by decide +kernel
theorem dX12_sortIntoVolumes_13 : decode cX12_sortIntoVolumes 13 = .ok (.istore_n 1, 1) := by decide +kernel
theorem dX12_sortIntoVolumes_14 : decode cX12_sortIntoVolumes 14 = .ok (.iload_n 1, 1) := by decide +kernel
theorem dX12_sortIntoVolumes_15 : decode cX12_sortIntoVolumes 15 = .ok (.aload_n 0, 1) := by decide +kernel
theorem dX12_sortIntoVolumes_16 : decode cX12_sortIntoVolumes 16 = .ok (.getfield 203, 3) := by decide +kernel
theorem dX12_sortIntoVolumes_19 : decode cX12_sortIntoVolumes 19 = .ok (.if_icmp .ge 28, 3) := by decide +kernel
theorem dX12_sortIntoVolumes_22 : decode cX12_sortIntoVolumes 22 = .ok (.aload_n 0, 1) := by decide +kernel
theorem dX12_sortIntoVolumes_23 : decode cX12_sortIntoVolumes 23 = .ok (.iload_n 1, 1) := by decide +kernel
theorem dX12_sortIntoVolumes_24 : decode cX12_sortIntoVolumes 24 = .ok (.invokevirtual 189, 3) := by decide +kernel
theorem dX12_sortIntoVolumes_27 : decode cX12_sortIntoVolumes 27 = .ok (.astore_n 2, 1) := by decide +kernel
theorem dX12_sortIntoVolumes_28 : decode cX12_sortIntoVolumes 28 = .ok (.aload_n 2, 1) := by decide +kernel
theorem dX12_sortIntoVolumes_29 : decode cX12_sortIntoVolumes 29 = .ok (.ifnull 12, 3) := by decide +kernel
theorem dX12_sortIntoVolumes_32 : decode cX12_sortIntoVolumes 32 = .ok (.aload_n 2, 1) := by decide +kernel
theorem dX12_sortIntoVolumes_33 : decode cX12_sortIntoVolumes 33 = .ok (.aload_n 0, 1) := by decide +kernel
theorem dX12_sortIntoVolumes_34 : decode cX12_sortIntoVolumes 34 = .ok (.aload_n 2, 1) := by decide +kernel
theorem dX12_sortIntoVolumes_35 : decode cX12_sortIntoVolumes 35 = .ok (.invokevirtual 216, 3) := by decide +kernel
theorem dX12_sortIntoVolumes_38 : decode cX12_sortIntoVolumes 38 = .ok (.putfield 220, 3) := by decide +kernel
theorem dX12_sortIntoVolumes_41 : decode cX12_sortIntoVolumes 41 = .ok (.iinc 1 1, 3) := by decide +kernel
theorem dX12_sortIntoVolumes_44 : decode cX12_sortIntoVolumes 44 = .ok (.goto (-30), 3) := by decide +kernel
theorem dX12_sortIntoVolumes_47 : decode cX12_sortIntoVolumes 47 = .ok (.return_, 1) := by decide +kernel
set_option maxRecDepth 20000 in
theorem ggX12_volumeByKey_X6_prepare : GoodIn wsX12_volumeByKey wsX6_prepare := goodIn_r _ [8, 9, 10, 11, 12, 13, 14, 15, 16, 17, 18, 19, 20, 21, 22, 23, 24, 25, 26, 27, 28, 29, 30, 31, 32, 33, 34, 35, 98, 99, 100, 101, 102, 103, 80, 81, 82, 83, 84, 85, 86, 87, 88, 89, 90, 91, 92, 93, 94, 95, 96, 97, 104, 105, 106, 107, 108, 109, 110, 111, 112, 113, 114, 115] (by decide +kernel) (by decide +kernel)
set_option maxRecDepth 20000 in
theorem gX12_volumeByKey_X6_prepare : GoodIn wsX12_volumeByKey (wsV RX12 223 RX6 yX6_prepare wsX6_prepare) := goodIn_app (goodIn_of _ (by decide +kernel)) ggX12_volumeByKey_X6_prepare
set_option maxRecDepth 20000 in
theorem ggX12_volumeByKey_X0_byteAt : GoodIn wsX12_volumeByKey wsX0_byteAt := goodIn_r _ [40, 41, 80, 81, 82, 83, 84, 85, 86, 87, 88, 89, 90, 91, 92, 93, 94, 95, 96, 97] (by decide +kernel) (by decide +kernel)
set_option maxRecDepth 20000 in
theorem gX12_volumeByKey_X0_byteAt : GoodIn wsX12_volumeByKey (wsV RX12 230 RX0 yX0_byteAt wsX0_byteAt) := goodIn_app (goodIn_of _ (by decide +kernel)) ggX12_volumeByKey_X0_byteAt
set_option maxRecDepth 20000 in
theorem ggX12_volumeByKey_X0_isDigit : GoodIn wsX12_volumeByKey wsX0_isDigit := goodIn_r _ [44] (by decide +kernel) (by decide +kernel)
set_option maxRecDepth 20000 in
theorem gX12_volumeByKey_X0_isDigit : GoodIn wsX12_volumeByKey (va_wsS RX12 233 yX0_isDigit wsX0_isDigit) := goodIn_app (goodIn_of _ (by decide +kernel)) ggX12_volumeByKey_X0_isDigit
set_option maxRecDepth 20000 in
theorem ggX12_volumeByKey_X12_lastLetter : GoodIn wsX12_volumeByKey wsX12_lastLetter := goodIn_r _ [49, 50, 51, 52, 53, 48, 54, 55, 56, 57, 58, 59, 116, 117, 118, 119, 120, 121, 122, 60, 61, 62, 63, 64, 65, 66, 67, 68, 69, 70, 71, 72, 73, 74, 75, 76, 77, 78, 79] (by decide +kernel) (by decide +kernel)
set_option maxRecDepth 20000 in
theorem gX12_volumeByKey_X12_lastLetter : GoodIn wsX12_volumeByKey (wsV RX12 161 RX12 yX12_lastLetter wsX12_lastLetter) := goodIn_app (goodIn_of _ (by decide +kernel)) ggX12_volumeByKey_X12_lastLetter
theorem dX12_volumeByKey_0 : decode cX12_volumeByKey 0 = .ok (.aload_n 0, 1) := by decide +kernel
theorem dX12_volumeByKey_1 : decode cX12_volumeByKey 1 = .ok (.getfield 28, 3) := by decide +kernel
theorem dX12_volumeByKey_4 : decode cX12_volumeByKey 4 = .ok (.aload_n 1, 1) := by decide +kernel
theorem dX12_volumeByKey_5 : decode cX12_volumeByKey 5 = .ok (.invokevirtual 223, 3) := by decide +kernel
theorem dX12_volumeByKey_8 : decode cX12_volumeByKey 8 = .ok (.aload_n 1, 1) := by decide +kernel
theorem dX12_volumeByKey_9 : decode cX12_volumeByKey 9 = .ok (.aload_n 1, 1) := by decide +kernel
theorem dX12_volumeByKey_10 : decode cX12_volumeByKey 10 = .ok (.getfield 227, 3) := by decide +kernel
theorem dX12_volumeByKey_13 : decode cX12_volumeByKey 13 = .ok (.invokevirtual 230, 3) := by decide +kernel
theorem dX12_volumeByKey_16 : decode cX12_volumeByKey 16 = .ok (.istore_n 2, 1) := by decide +kernel
theorem dX12_volumeByKey_17 : decode cX12_volumeByKey 17 = .ok (.iconst 5, 1) := by decide +kernel
theorem dX12_volumeByKey_18 : decode cX12_volumeByKey 18 = .ok (.istore_n 3, 1) := by decide +kernel
theorem dX12_volumeByKey_19 : decode cX12_volumeByKey 19 = .ok (.iload_n 2, 1) := by decide +kernel
theorem dX12_volumeByKey_20 : decode cX12_volumeByKey 20 = .ok (.invokestatic 233, 3) := by decide +kernel
theorem dX12_volumeByKey_23 : decode cX12_volumeByKey 23 = .ok (.ifCond .eq 19, 3) := by decide +kernel
theorem dX12_volumeByKey_26 : decode cX12_volumeByKey 26 = .ok (.aload_n 0, 1) := by decide +kernel
theorem dX12_volumeByKey_27 : decode cX12_volumeByKey 27 = .ok (.getfield 28, 3) := by decide +kernel
theorem dX12_volumeByKey_30 : decode cX12_volumeByKey 30 = .ok (.getfield 236, 3) := by decide +kernel
theorem dX12_volumeByKey_33 : decode cX12_volumeByKey 33 = .ok (.ifCond .eq 7, 3) := by decide +kernel
theorem dX12_volumeByKey_36 : decode cX12_volumeByKey 36 = .ok (.iconst 0, 1) := by decide +kernel
theorem dX12_volumeByKey_37 : decode cX12_volumeByKey 37 = .ok (.goto 4, 3) := by decide +kernel
theorem dX12_volumeByKey_40 : decode cX12_volumeByKey 40 = .ok (.iload_n 3, 1) := by decide +kernel
theorem dX12_volumeByKey_41 : decode cX12_volumeByKey 41 = .ok (.ireturn, 1) := by decide +kernel
theorem dX12_volumeByKey_42 : decode cX12_volumeByKey 42 = .ok (.iconst 0, 1) := by decide +kernel
theorem dX12_volumeByKey_43 : decode cX12_volumeByKey 43 = .ok (.istore 4, 2) := by decide +kernel
theorem dX12_volumeByKey_45 : decode cX12_volumeByKey 45 = .ok (.iload 4, 2) := by decide +kernel
theorem dX12_volumeByKey_47 : decode cX12_volumeByKey 47 = .ok (.iload_n 3, 1) := by decide +kernel
theorem dX12_volumeByKey_48 : decode cX12_volumeByKey 48 = .ok (.if_icmp .ge 25, 3) := by decide +kernel
theorem dX12_volumeByKey_51 : decode cX12_volumeByKey 51 = .ok (.iload_n 2, 1) := by decide +kernel
theorem dX12_volumeByKey_52 : decode cX12_volumeByKey 52 = .ok (.bipush 97, 2) := by decide +kernel
theorem dX12_volumeByKey_54 : decode cX12_volumeByKey 54 = .ok (.isub, 1) := by decide +kernel
theorem dX12_volumeByKey_55 : decode cX12_volumeByKey 55 = .ok (.aload_n 0, 1) := by decide +kernel
theorem dX12_volumeByKey_56 : decode cX12_volumeByKey 56 = .ok (.iload 4, 2) := by decide +kernel
theorem dX12_volumeByKey_58 : decode cX12_volumeByKey 58 = .ok (.invokevirtual 161, 3) := by decide +kernel
theorem dX12_volumeByKey_61 : decode cX12_volumeByKey 61 = .ok (.if_icmp .gt 6, 3) := by decide +kernel
theorem dX12_volumeByKey_64 : decode cX12_volumeByKey 64 = .ok (.iload 4, 2) := by decide +kernel
theorem dX12_volumeByKey_66 : decode cX12_volumeByKey 66 = .ok (.ireturn, 1) := by decide +kernel
theorem dX12_volumeByKey_67 : decode cX12_volumeByKey 67 = .ok (.iinc 4 1, 3) := by decide +kernel
theorem dX12_volumeByKey_70 : decode cX12_volumeByKey 70 = .ok (.goto (-25), 3) := by decide +kernel
theorem dX12_volumeByKey_73 : decode cX12_volumeByKey 73 = .ok (.iload_n 3, 1) := by decide +kernel
theorem dX12_volumeByKey_74 : decode cX12_volumeByKey 74 = .ok (.ireturn, 1) := by decide +kernel
theorem dX12_entryAt_0 : decode cX12_entryAt 0 = .ok (.iload_n 1, 1) := by decide +kernel
theorem dX12_entryAt_1 : decode cX12_entryAt 1 = .ok (.ifCond .lt 26, 3) := by decide +kernel
theorem dX12_entryAt_4 : decode cX12_entryAt 4 = .ok (.iload_n 1, 1) := by decide +kernel
theorem dX12_entryAt_5 : decode cX12_entryAt 5 = .ok (.aload_n 0, 1) := by decide +kernel
theorem dX12_entryAt_6 : decode cX12_entryAt 6 = .ok (.getfield 203, 3) := by decide +kernel
theorem dX12_entryAt_9 : decode cX12_entryAt 9 = .ok (.if_icmp .ge 18, 3) := by decide +kernel
theorem dX12_entryAt_12 : decode cX12_entryAt 12 = .ok (.iload_n 1, 1) := by decide +kernel
theorem dX12_entryAt_13 : decode cX12_entryAt 13 = .ok (.bipush 60, 2) := by decide +kernel
theorem dX12_entryAt_15 : decode cX12_entryAt 15 = .ok (.if_icmp .ge 12, 3) := by decide +kernel
theorem dX12_entryAt_18 : decode cX12_entryAt 18 = .ok (.aload_n 0, 1) := by decide +kernel
theorem dX12_entryAt_19 : decode cX12_entryAt 19 = .ok (.getfield 43, 3) := by decide +kernel
theorem dX12_entryAt_22 : decode cX12_entryAt 22 = .ok (.iload_n 1, 1) := by decide +kernel
theorem dX12_entryAt_23 : decode cX12_entryAt 23 = .ok (.aaload, 1) := by decide +kernel
theorem dX12_entryAt_24 : decode cX12_entryAt 24 = .ok (.goto 4, 3) := by decide +kernel
theorem dX12_entryAt_27 : decode cX12_entryAt 27 = .ok (.aconst_null, 1) := by decide +kernel
theorem dX12_entryAt_28 : decode cX12_entryAt 28 = .ok (.areturn, 1) := by decide +kernel
set_option maxRecDepth 20000 in
theorem ggX12_entryOfKind_X12_entryAt : GoodIn wsX12_entryOfKind wsX12_entryAt := goodIn_r _ [6, 7, 8, 27, 28, 29, 30, 31, 32, 33, 34, 35, 36, 37, 38, 39, 40, 41, 42, 43, 44, 45, 46] (by decide +kernel) (by decide +kernel)
set_option maxRecDepth 20000 in
theorem gX12_entryOfKind_X12_entryAt : GoodIn wsX12_entryOfKind (wsV RX12 189 RX12 yX12_entryAt wsX12_entryAt) := goodIn_app (goodIn_of _ (by decide +kernel)) ggX12_entryOfKind_X12_entryAt
theorem dX12_entryOfKind_0 : decode cX12_entryOfKind 0 = .ok (.aload_n 0, 1) := by decide +kernel
theorem dX12_entryOfKind_1 : decode cX12_entryOfKind 1 = .ok (.iload_n 1, 1) := by decide +kernel
theorem dX12_entryOfKind_2 : decode cX12_entryOfKind 2 = .ok (.invokevirtual 189, 3) := by decide +kernel
theorem dX12_entryOfKind_5 : decode cX12_entryOfKind 5 = .ok (.astore_n 3, 1) := by decide +kernel
theorem dX12_entryOfKind_6 : decode cX12_entryOfKind 6 = .ok (.aload_n 3, 1) := by decide +kernel
theorem dX12_entryOfKind_7 : decode cX12_entryOfKind 7 = .ok (.ifnull 15, 3) := by decide +kernel
theorem dX12_entryOfKind_10 : decode cX12_entryOfKind 10 = .ok (.aload_n 3, 1) := by decide +kernel
theorem dX12_entryOfKind_11 : decode cX12_entryOfKind 11 = .ok (.getfield 240, 3) := by decide +kernel
theorem dX12_entryOfKind_14 : decode cX12_entryOfKind 14 = .ok (.iload_n 2, 1) := by decide +kernel
theorem dX12_entryOfKind_15 : decode cX12_entryOfKind 15 = .ok (.if_icmp .ne 7, 3) := by decide +kernel
theorem dX12_entryOfKind_18 : decode cX12_entryOfKind 18 = .ok (.aload_n 3, 1) := by decide +kernel
theorem dX12_entryOfKind_19 : decode cX12_entryOfKind 19 = .ok (.goto 4, 3) := by decide +kernel
theorem dX12_entryOfKind_22 : decode cX12_entryOfKind 22 = .ok (.aconst_null, 1) := by decide +kernel
theorem dX12_entryOfKind_23 : decode cX12_entryOfKind 23 = .ok (.areturn, 1) := by decide +kernel
set_option maxRecDepth 20000 in
theorem ggX12_points_X12_entryOfKind : GoodIn wsX12_points wsX12_entryOfKind := goodIn_r _ [7, 8, 9, 10, 11, 6, 12, 13, 14, 15, 16, 17, 18, 19, 20, 21, 22, 23, 24, 25, 26, 27, 28, 29, 30, 31, 32, 33, 34, 35, 36, 37, 38, 39, 40, 41, 42, 43, 44, 45, 46, 47, 48, 49, 50, 51, 52] (by decide +kernel) (by decide +kernel)
set_option maxRecDepth 20000 in
theorem gX12_points_X12_entryOfKind : GoodIn wsX12_points (wsV RX12 243 RX12 yX12_entryOfKind wsX12_entryOfKind) := goodIn_app (goodIn_of _ (by decide +kernel)) ggX12_points_X12_entryOfKind
set_option maxRecDepth 20000 in
theorem ggX12_points_X12_entryAt : GoodIn wsX12_points wsX12_entryAt := goodIn_r _ [12, 13, 14, 33, 34, 35, 36, 37, 38, 39, 40, 41, 42, 43, 44, 45, 46, 47, 48, 49, 50, 51, 52] (by decide +kernel) (by decide +kernel)
set_option maxRecDepth 20000 in
theorem gX12_points_X12_entryAt : GoodIn wsX12_points (wsV RX12 189 RX12 yX12_entryAt wsX12_entryAt) := goodIn_app (goodIn_of _ (by decide +kernel)) ggX12_points_X12_entryAt
theorem dX12_points_0 : decode cX12_points 0 = .ok (.aload_n 0, 1) := by decide +kernel
theorem dX12_points_1 : decode cX12_points 1 = .ok (.iload_n 1, 1) := by decide +kernel
theorem dX12_points_2 : decode cX12_points 2 = .ok (.iconst 1, 1) := by decide +kernel
theorem dX12_points_3 : decode cX12_points 3 = .ok (.invokevirtual 243, 3) := by decide +kernel
theorem dX12_points_6 : decode cX12_points 6 = .ok (.astore_n 3, 1) := by decide +kernel
theorem dX12_points_7 : decode cX12_points 7 = .ok (.aload_n 3, 1) := by decide +kernel
theorem dX12_points_8 : decode cX12_points 8 = .ok (.ifnull 19, 3) := by decide +kernel
theorem dX12_points_11 : decode cX12_points 11 = .ok (.aload_n 3, 1) := by decide +kernel
theorem dX12_points_12 : decode cX12_points 12 = .ok (.getfield 247, 3) := by decide +kernel
theorem dX12_points_15 : decode cX12_points 15 = .ok (.iconst (-1), 1) := by decide +kernel
theorem dX12_points_16 : decode cX12_points 16 = .ok (.if_icmp .ne 11, 3) := by decide +kernel
theorem dX12_points_19 : decode cX12_points 19 = .ok (.aload_n 0, 1) := by decide +kernel
theorem dX12_points_20 : decode cX12_points 20 = .ok (.iload_n 2, 1) := by decide +kernel
theorem dX12_points_21 : decode cX12_points 21 = .ok (.invokevirtual 189, 3) := by decide +kernel
theorem dX12_points_24 : decode cX12_points 24 = .ok (.ifnonnull 5, 3) := by decide +kernel
theorem dX12_points_27 : decode cX12_points 27 = .ok (.iconst 0, 1) := by decide +kernel
theorem dX12_points_28 : decode cX12_points 28 = .ok (.ireturn, 1) := by decide +kernel
theorem dX12_points_29 : decode cX12_points 29 = .ok (.aload_n 3, 1) := by decide +kernel
theorem dX12_points_30 : decode cX12_points 30 = .ok (.iload_n 2, 1) := by decide +kernel
theorem dX12_points_31 : decode cX12_points 31 = .ok (.putfield 193, 3) := by decide +kernel
theorem dX12_points_34 : decode cX12_points 34 = .ok (.iconst 1, 1) := by decide +kernel
theorem dX12_points_35 : decode cX12_points 35 = .ok (.ireturn, 1) := by decide +kernel
set_option maxRecDepth 20000 in
theorem ggX12_strike_X12_sendAway : GoodIn wsX12_strike wsX12_sendAway := goodIn_r _ [5, 6, 7, 8, 9, 10, 4, 11, 12, 13, 14, 15, 16, 17, 18, 19, 20, 21, 22, 23, 24, 25, 26, 27, 28, 29, 30, 31, 32, 33, 34, 35, 36, 37, 38, 39, 40, 41, 42, 43, 44, 45, 46, 47, 48, 49, 50, 51, 52, 53, 54, 55, 56, 57, 58, 59, 60, 61] (by decide +kernel) (by decide +kernel)
set_option maxRecDepth 20000 in
theorem gX12_strike_X12_sendAway : GoodIn wsX12_strike (wsV RX12 250 RX12 yX12_sendAway wsX12_sendAway) := goodIn_app (goodIn_of _ (by decide +kernel)) ggX12_strike_X12_sendAway
theorem dX12_strike_0 : decode cX12_strike 0 = .ok (.aload_n 0, 1) := by decide +kernel
theorem dX12_strike_1 : decode cX12_strike 1 = .ok (.iload_n 1, 1) := by decide +kernel
theorem dX12_strike_2 : decode cX12_strike 2 = .ok (.iconst 1, 1) := by decide +kernel
theorem dX12_strike_3 : decode cX12_strike 3 = .ok (.invokevirtual 250, 3) := by decide +kernel
theorem dX12_strike_6 : decode cX12_strike 6 = .ok (.ireturn, 1) := by decide +kernel
set_option maxRecDepth 20000 in
theorem ggX12_later_X12_sendAway : GoodIn wsX12_later wsX12_sendAway := goodIn_r _ [5, 6, 7, 8, 9, 10, 4, 11, 12, 13, 14, 15, 16, 17, 18, 19, 20, 21, 22, 23, 24, 25, 26, 27, 28, 29, 30, 31, 32, 33, 34, 35, 36, 37, 38, 39, 40, 41, 42, 43, 44, 45, 46, 47, 48, 49, 50, 51, 52, 53, 54, 55, 56, 57, 58, 59, 60, 61] (by decide +kernel) (by decide +kernel)
set_option maxRecDepth 20000 in
theorem gX12_later_X12_sendAway : GoodIn wsX12_later (wsV RX12 250 RX12 yX12_sendAway wsX12_sendAway) := goodIn_app (goodIn_of _ (by decide +kernel)) ggX12_later_X12_sendAway
theorem dX12_later_0 : decode cX12_later 0 = .ok (.aload_n 0, 1) := by decide +kernel
theorem dX12_later_1 : decode cX12_later 1 = .ok (.iload_n 1, 1) := by decide +kernel
theorem dX12_later_2 : decode cX12_later 2 = .ok (.iconst 2, 1) := by decide +kernel
theorem dX12_later_3 : decode cX12_later 3 = .ok (.invokevirtual 250, 3) := by decide +kernel
theorem dX12_later_6 : decode cX12_later 6 = .ok (.ireturn, 1) := by decide +kernel
set_option maxRecDepth 20000 in
theorem ggX12_sendAway_X12_entryAt : GoodIn wsX12_sendAway wsX12_entryAt := goodIn_r _ [7, 8, 9, 38, 39, 40, 41, 42, 43, 44, 45, 46, 47, 48, 49, 50, 51, 52, 53, 54, 55, 56, 57] (by decide +kernel) (by decide +kernel)
set_option maxRecDepth 20000 in
theorem gX12_sendAway_X12_entryAt : GoodIn wsX12_sendAway (wsV RX12 189 RX12 yX12_entryAt wsX12_entryAt) := goodIn_app (goodIn_of _ (by decide +kernel)) ggX12_sendAway_X12_entryAt
set_option maxRecDepth 20000 in
theorem ggX12_sendAway_X12_isLater : GoodIn wsX12_sendAway wsX12_isLater := goodIn_r _ [13, 2, 1, 14, 15, 16, 17, 6, 18, 19, 20, 21, 22, 23, 24, 25, 26, 27, 28, 29, 30, 31, 32, 33, 34, 35, 36, 37, 38, 39, 40, 41, 42, 43, 44, 45, 46, 47, 48, 49, 50, 51, 52, 53, 54, 55, 56, 57] (by decide +kernel) (by decide +kernel)
set_option maxRecDepth 20000 in
theorem gX12_sendAway_X12_isLater : GoodIn wsX12_sendAway (wsV RX12 256 RX12 yX12_isLater wsX12_isLater) := goodIn_app (goodIn_of _ (by decide +kernel)) ggX12_sendAway_X12_isLater
theorem dX12_sendAway_0 : decode cX12_sendAway 0 = .ok (.aload_n 0, 1) := by decide +kernel
theorem dX12_sendAway_1 : decode cX12_sendAway 1 = .ok (.iload_n 1, 1) := by decide +kernel
theorem dX12_sendAway_2 : decode cX12_sendAway 2 = .ok (.invokevirtual 189, 3) := by decide +kernel
theorem dX12_sendAway_5 : decode cX12_sendAway 5 = .ok (.astore_n 3, 1) := by decide +kernel
theorem dX12_sendAway_6 : decode cX12_sendAway 6 = .ok (.aload_n 3, 1) := by decide +kernel
theorem dX12_sendAway_7 : decode cX12_sendAway 7 = .ok (.ifnull 26, 3) := by decide +kernel
theorem dX12_sendAway_10 : decode cX12_sendAway 10 = .ok (.aload_n 3, 1) := by decide +kernel
theorem dX12_sendAway_11 : decode cX12_sendAway 11 = .ok (.getfield 253, 3) := by decide +kernel
theorem dX12_sendAway_14 : decode cX12_sendAway 14 = .ok (.ifCond .ne 19, 3) := by decide +kernel
theorem dX12_sendAway_17 : decode cX12_sendAway 17 = .ok (.aload_n 0, 1) := by decide +kernel
theorem dX12_sendAway_18 : decode cX12_sendAway 18 = .ok (.aload_n 3, 1) := by decide +kernel
theorem dX12_sendAway_19 : decode cX12_sendAway 19 = .ok (.invokevirtual 256, 3) := by decide +kernel
theorem dX12_sendAway_22 : decode cX12_sendAway 22 = .ok (.ifCond .ne 11, 3) := by decide +kernel
theorem dX12_sendAway_25 : decode cX12_sendAway 25 = .ok (.aload_n 3, 1) := by decide +kernel
theorem dX12_sendAway_26 : decode cX12_sendAway 26 = .ok (.getfield 247, 3) := by decide +kernel
theorem dX12_sendAway_29 : decode cX12_sendAway 29 = .ok (.iconst (-1), 1) := by decide +kernel
theorem dX12_sendAway_30 : decode cX12_sendAway 30 = .ok (.if_icmp .eq 5, 3) := by decide +kernel
theorem dX12_sendAway_33 : decode cX12_sendAway 33 = .ok (.iconst 0, 1) := by decide +kernel
theorem dX12_sendAway_34 : decode cX12_sendAway 34 = .ok (.ireturn, 1) := by decide +kernel
theorem dX12_sendAway_35 : decode cX12_sendAway 35 = .ok (.aload_n 3, 1) := by decide +kernel
theorem dX12_sendAway_36 : decode cX12_sendAway 36 = .ok (.iload_n 2, 1) := by decide +kernel
theorem dX12_sendAway_37 : decode cX12_sendAway 37 = .ok (.putfield 253, 3) := by decide +kernel
theorem dX12_sendAway_40 : decode cX12_sendAway 40 = .ok (.iconst 1, 1) := by decide +kernel
theorem dX12_sendAway_41 : decode cX12_sendAway 41 = .ok (.ireturn, 1) := by decide +kernel
set_option maxRecDepth 20000 in
theorem ggX12_isLater_X12_isSet : GoodIn wsX12_isLater wsX12_isSet := goodIn_r _ [8, 9, 28, 29, 30, 31, 32, 33, 34, 35, 36, 37, 38, 39, 40, 41, 42, 43, 44, 45, 46, 47] (by decide +kernel) (by decide +kernel)
set_option maxRecDepth 20000 in
theorem gX12_isLater_X12_isSet : GoodIn wsX12_isLater (wsV RX12 130 RX12 yX12_isSet wsX12_isSet) := goodIn_app (goodIn_of _ (by decide +kernel)) ggX12_isLater_X12_isSet
theorem dX12_isLater_0 : decode cX12_isLater 0 = .ok (.aload_n 1, 1) := by decide +kernel
theorem dX12_isLater_1 : decode cX12_isLater 1 = .ok (.getfield 247, 3) := by decide +kernel
theorem dX12_isLater_4 : decode cX12_isLater 4 = .ok (.iconst (-1), 1) := by decide +kernel
theorem dX12_isLater_5 : decode cX12_isLater 5 = .ok (.if_icmp .ne 26, 3) := by decide +kernel
theorem dX12_isLater_8 : decode cX12_isLater 8 = .ok (.aload_n 1, 1) := by decide +kernel
theorem dX12_isLater_9 : decode cX12_isLater 9 = .ok (.getfield 253, 3) := by decide +kernel
theorem dX12_isLater_12 : decode cX12_isLater 12 = .ok (.iconst 2, 1) := by decide +kernel
theorem dX12_isLater_13 : decode cX12_isLater 13 = .ok (.if_icmp .eq 14, 3) := by decide +kernel
theorem dX12_isLater_16 : decode cX12_isLater 16 = .ok (.aload_n 0, 1) := by decide +kernel
theorem dX12_isLater_17 : decode cX12_isLater 17 = .ok (.aload_n 1, 1) := by decide +kernel
theorem dX12_isLater_18 : decode cX12_isLater 18 = .ok (.getfield 220, 3) := by decide +kernel
theorem dX12_isLater_21 : decode cX12_isLater 21 = .ok (.invokevirtual 130, 3) := by decide +kernel
theorem dX12_isLater_24 : decode cX12_isLater 24 = .ok (.ifCond .eq 7, 3) := by decide +kernel
theorem dX12_isLater_27 : decode cX12_isLater 27 = .ok (.iconst 1, 1) := by decide +kernel
theorem dX12_isLater_28 : decode cX12_isLater 28 = .ok (.goto 4, 3) := by decide +kernel
theorem dX12_isLater_31 : decode cX12_isLater 31 = .ok (.iconst 0, 1) := by decide +kernel
theorem dX12_isLater_32 : decode cX12_isLater 32 = .ok (.ireturn, 1) := by decide +kernel
theorem dX12_isStruck_0 : decode cX12_isStruck 0 = .ok (.aload_n 1, 1) := by decide +kernel
theorem dX12_isStruck_1 : decode cX12_isStruck 1 = .ok (.getfield 253, 3) := by decide +kernel
theorem dX12_isStruck_4 : decode cX12_isStruck 4 = .ok (.iconst 1, 1) := by decide +kernel
theorem dX12_isStruck_5 : decode cX12_isStruck 5 = .ok (.if_icmp .ne 7, 3) := by decide +kernel
theorem dX12_isStruck_8 : decode cX12_isStruck 8 = .ok (.iconst 1, 1) := by decide +kernel
theorem dX12_isStruck_9 : decode cX12_isStruck 9 = .ok (.goto 4, 3) := by decide +kernel
theorem dX12_isStruck_12 : decode cX12_isStruck 12 = .ok (.iconst 0, 1) := by decide +kernel
theorem dX12_isStruck_13 : decode cX12_isStruck 13 = .ok (.ireturn, 1) := by decide +kernel
set_option maxRecDepth 20000 in
theorem ggX12_standing_X12_isLater : GoodIn wsX12_standing wsX12_isLater := goodIn_r _ [7, 1, 8, 2, 9, 10, 11, 6, 12, 13, 14, 15, 16, 17, 18, 19, 20, 21, 22, 23, 24, 25, 26, 27, 28, 29, 30, 31, 32, 33, 34, 35, 36, 37, 38, 39, 40, 41, 42, 43, 44, 45, 46, 47, 48, 49, 50, 51] (by decide +kernel) (by decide +kernel)
set_option maxRecDepth 20000 in
theorem gX12_standing_X12_isLater : GoodIn wsX12_standing (wsV RX12 256 RX12 yX12_isLater wsX12_isLater) := goodIn_app (goodIn_of _ (by decide +kernel)) ggX12_standing_X12_isLater
theorem dX12_standing_0 : decode cX12_standing 0 = .ok (.aload_n 1, 1) := by decide +kernel
theorem dX12_standing_1 : decode cX12_standing 1 = .ok (.getfield 247, 3) := by decide +kernel
theorem dX12_standing_4 : decode cX12_standing 4 = .ok (.iconst (-1), 1) := by decide +kernel
theorem dX12_standing_5 : decode cX12_standing 5 = .ok (.if_icmp .eq 8, 3) := by decide +kernel
theorem dX12_standing_8 : decode cX12_standing 8 = .ok (.aload_n 1, 1) := by decide +kernel
theorem dX12_standing_9 : decode cX12_standing 9 = .ok (.getfield 247, 3) := by decide +kernel
theorem dX12_standing_12 : decode cX12_standing 12 = .ok (.ireturn, 1) := by decide +kernel
theorem dX12_standing_13 : decode cX12_standing 13 = .ok (.aload_n 0, 1) := by decide +kernel
theorem dX12_standing_14 : decode cX12_standing 14 = .ok (.aload_n 1, 1) := by decide +kernel
theorem dX12_standing_15 : decode cX12_standing 15 = .ok (.invokevirtual 256, 3) := by decide +kernel
theorem dX12_standing_18 : decode cX12_standing 18 = .ok (.ifCond .eq 8, 3) := by decide +kernel
theorem dX12_standing_21 : decode cX12_standing 21 = .ok (.bipush 6, 2) := by decide +kernel
theorem dX12_standing_23 : decode cX12_standing 23 = .ok (.goto 7, 3) := by decide +kernel
theorem dX12_standing_26 : decode cX12_standing 26 = .ok (.aload_n 1, 1) := by decide +kernel
theorem dX12_standing_27 : decode cX12_standing 27 = .ok (.getfield 220, 3) := by decide +kernel
theorem dX12_standing_30 : decode cX12_standing 30 = .ok (.ireturn, 1) := by decide +kernel
set_option maxRecDepth 20000 in
theorem ggX12_volume_X12_entryAt : GoodIn wsX12_volume wsX12_entryAt := goodIn_r _ [5, 6, 7, 24, 25, 26, 27, 28, 29, 30, 31, 32, 33, 34, 35, 36, 37, 38, 39, 40, 41, 42, 43] (by decide +kernel) (by decide +kernel)
set_option maxRecDepth 20000 in
theorem gX12_volume_X12_entryAt : GoodIn wsX12_volume (wsV RX12 189 RX12 yX12_entryAt wsX12_entryAt) := goodIn_app (goodIn_of _ (by decide +kernel)) ggX12_volume_X12_entryAt
set_option maxRecDepth 20000 in
theorem ggX12_volume_X12_standing : GoodIn wsX12_volume wsX12_standing := goodIn_r _ [11, 12, 13, 14, 15, 16, 4, 17, 18, 19, 20, 21, 22, 23, 44, 45, 46, 47, 48, 49, 50, 51, 52, 53, 54, 55, 56, 57, 58, 59, 60, 61, 24, 25, 26, 27, 28, 29, 30, 31, 32, 33, 34, 35, 36, 37, 38, 39, 40, 41, 42, 43] (by decide +kernel) (by decide +kernel)
set_option maxRecDepth 20000 in
theorem gX12_volume_X12_standing : GoodIn wsX12_volume (wsV RX12 260 RX12 yX12_standing wsX12_standing) := goodIn_app (goodIn_of _ (by decide +kernel)) ggX12_volume_X12_standing
theorem dX12_volume_0 : decode cX12_volume 0 = .ok (.aload_n 0, 1) := by decide +kernel
theorem dX12_volume_1 : decode cX12_volume 1 = .ok (.iload_n 1, 1) := by decide +kernel
theorem dX12_volume_2 : decode cX12_volume 2 = .ok (.invokevirtual 189, 3) := by decide +kernel
theorem dX12_volume_5 : decode cX12_volume 5 = .ok (.astore_n 2, 1) := by decide +kernel
theorem dX12_volume_6 : decode cX12_volume 6 = .ok (.aload_n 2, 1) := by decide +kernel
theorem dX12_volume_7 : decode cX12_volume 7 = .ok (.ifnonnull 7, 3) := by decide +kernel
theorem dX12_volume_10 : decode cX12_volume 10 = .ok (.iconst (-1), 1) := by decide +kernel
theorem dX12_volume_11 : decode cX12_volume 11 = .ok (.goto 8, 3) := by decide +kernel
theorem dX12_volume_14 : decode cX12_volume 14 = .ok (.aload_n 0, 1) := by decide +kernel
theorem dX12_volume_15 : decode cX12_volume 15 = .ok (.aload_n 2, 1) := by decide +kernel
theorem dX12_volume_16 : decode cX12_volume 16 = .ok (.invokevirtual 260, 3) := by decide +kernel
theorem dX12_volume_19 : decode cX12_volume 19 = .ok (.ireturn, 1) := by decide +kernel
set_option maxRecDepth 20000 in
theorem ggX12_at_X12_volumeAt : GoodIn wsX12_at wsX12_volumeAt := goodIn_r _ [9, 10, 11, 12, 13, 8, 14, 151, 152, 153, 154, 155, 156, 157, 158, 159, 160, 161, 162, 163, 164, 165, 166, 167, 168, 169, 170] (by decide +kernel) (by decide +kernel)
set_option maxRecDepth 20000 in
theorem gX12_at_X12_volumeAt : GoodIn wsX12_at (wsV RX12 166 RX12 yX12_volumeAt wsX12_volumeAt) := goodIn_app (goodIn_of _ (by decide +kernel)) ggX12_at_X12_volumeAt
set_option maxRecDepth 20000 in
theorem ggX12_at_X12_arrange : GoodIn wsX12_at wsX12_arrange := goodIn_r _ [18, 3, 19, 20, 21, 22, 23, 24, 25, 26, 27, 28, 29, 30, 31, 32, 33, 34, 35, 36, 37, 38, 39, 40, 41, 42, 43, 44, 45, 46, 47, 48, 49, 50, 51, 52, 53, 54, 55, 56, 57, 58, 59, 60, 61, 62, 63, 64, 65, 66, 67, 68, 69, 70, 71, 72, 73, 74, 75, 76, 77, 78, 79, 80, 81, 82, 8, 83, 84, 85, 86, 87, 88, 89, 90, 91, 92, 93, 94, 95, 96, 97, 98, 99, 100, 101, 102, 103, 104, 105, 106, 107, 108, 109, 110, 111, 112, 113, 114, 115, 116, 117, 118, 119, 4, 120, 121, 122, 123, 124, 125, 126, 127, 128, 129, 130, 131, 132, 133, 134, 135, 136, 137, 138, 139, 140, 141, 142, 143, 151, 152, 153, 154, 155, 156, 157, 158, 159, 160, 161, 162, 163, 164, 165, 166, 167, 168, 169, 170, 171, 172, 173, 174, 175, 176, 177, 178, 179, 180, 181, 182, 183, 184, 185, 186, 187, 188, 189, 190, 191, 192, 193, 194, 195, 196, 197, 198, 199, 200, 201, 202, 203, 204, 205, 206] (by decide +kernel) (by decide +kernel)
set_option maxRecDepth 20000 in
theorem gX12_at_X12_arrange : GoodIn wsX12_at (wsV RX12 265 RX12 yX12_arrange wsX12_arrange) := goodIn_app (goodIn_of _ (by decide +kernel)) ggX12_at_X12_arrange
theorem dX12_at_0 : decode cX12_at 0 = .ok (.aload_n 0, 1) := by decide +kernel
theorem dX12_at_1 : decode cX12_at 1 = .ok (.iload_n 1, 1) := by decide +kernel
theorem dX12_at_2 : decode cX12_at 2 = .ok (.invokevirtual 166, 3) := by decide +kernel
theorem dX12_at_5 : decode cX12_at 5 = .ok (.astore_n 3, 1) := by decide +kernel
theorem dX12_at_6 : decode cX12_at 6 = .ok (.aload_n 3, 1) := by decide +kernel
theorem dX12_at_7 : decode cX12_at 7 = .ok (.ifnull 7, 3) := by decide +kernel
theorem dX12_at_10 : decode cX12_at 10 = .ok (.iload_n 2, 1) := by decide +kernel
theorem dX12_at_11 : decode cX12_at 11 = .ok (.ifCond .ge 5, 3) := by decide +kernel
theorem dX12_at_14 : decode cX12_at 14 = .ok (.iconst (-1), 1) := by decide +kernel
theorem dX12_at_15 : decode cX12_at 15 = .ok (.ireturn, 1) := by decide +kernel
theorem dX12_at_16 : decode cX12_at 16 = .ok (.aload_n 3, 1) := by decide +kernel
theorem dX12_at_17 : decode cX12_at 17 = .ok (.getfield 170, 3) := by decide +kernel
theorem dX12_at_20 : decode cX12_at 20 = .ok (.iconst (-1), 1) := by decide +kernel
theorem dX12_at_21 : decode cX12_at 21 = .ok (.if_icmp .eq 23, 3) := by decide +kernel
theorem dX12_at_24 : decode cX12_at 24 = .ok (.iload_n 2, 1) := by decide +kernel
theorem dX12_at_25 : decode cX12_at 25 = .ok (.aload_n 3, 1) := by decide +kernel
theorem dX12_at_26 : decode cX12_at 26 = .ok (.getfield 263, 3) := by decide +kernel
theorem dX12_at_29 : decode cX12_at 29 = .ok (.arraylength, 1) := by decide +kernel
theorem dX12_at_30 : decode cX12_at 30 = .ok (.if_icmp .ge 12, 3) := by decide +kernel
theorem dX12_at_33 : decode cX12_at 33 = .ok (.aload_n 3, 1) := by decide +kernel
theorem dX12_at_34 : decode cX12_at 34 = .ok (.getfield 263, 3) := by decide +kernel
theorem dX12_at_37 : decode cX12_at 37 = .ok (.iload_n 2, 1) := by decide +kernel
theorem dX12_at_38 : decode cX12_at 38 = .ok (.iaload, 1) := by decide +kernel
theorem dX12_at_39 : decode cX12_at 39 = .ok (.goto 4, 3) := by decide +kernel
theorem dX12_at_42 : decode cX12_at 42 = .ok (.iconst (-1), 1) := by decide +kernel
theorem dX12_at_43 : decode cX12_at 43 = .ok (.ireturn, 1) := by decide +kernel
theorem dX12_at_44 : decode cX12_at 44 = .ok (.aload_n 0, 1) := by decide +kernel
theorem dX12_at_45 : decode cX12_at 45 = .ok (.iload_n 1, 1) := by decide +kernel
theorem dX12_at_46 : decode cX12_at 46 = .ok (.invokevirtual 265, 3) := by decide +kernel
theorem dX12_at_49 : decode cX12_at 49 = .ok (.iload_n 2, 1) := by decide +kernel
theorem dX12_at_50 : decode cX12_at 50 = .ok (.aload_n 0, 1) := by decide +kernel
theorem dX12_at_51 : decode cX12_at 51 = .ok (.getfield 268, 3) := by decide +kernel
theorem dX12_at_54 : decode cX12_at 54 = .ok (.if_icmp .ge 21, 3) := by decide +kernel
theorem dX12_at_57 : decode cX12_at 57 = .ok (.iload_n 2, 1) := by decide +kernel
theorem dX12_at_58 : decode cX12_at 58 = .ok (.aload_n 0, 1) := by decide +kernel
theorem dX12_at_59 : decode cX12_at 59 = .ok (.getfield 47, 3) := by decide +kernel
theorem dX12_at_62 : decode cX12_at 62 = .ok (.arraylength, 1) := by decide +kernel
theorem dX12_at_63 : decode cX12_at 63 = .ok (.if_icmp .ge 12, 3) := by decide +kernel
theorem dX12_at_66 : decode cX12_at 66 = .ok (.aload_n 0, 1) := by decide +kernel
theorem dX12_at_67 : decode cX12_at 67 = .ok (.getfield 47, 3) := by decide +kernel
theorem dX12_at_70 : decode cX12_at 70 = .ok (.iload_n 2, 1) := by decide +kernel
theorem dX12_at_71 : decode cX12_at 71 = .ok (.iaload, 1) := by decide +kernel
theorem dX12_at_72 : decode cX12_at 72 = .ok (.goto 4, 3) := by decide +kernel
theorem dX12_at_75 : decode cX12_at 75 = .ok (.iconst (-1), 1) := by decide +kernel
theorem dX12_at_76 : decode cX12_at 76 = .ok (.ireturn, 1) := by decide +kernel
set_option maxRecDepth 20000 in
theorem ggX12_arrange_X6_take : GoodIn wsX12_arrange wsX6_take := goodIn_r _ [10, 11, 12, 13, 14, 15, 16, 17, 18, 19, 20, 21, 22, 23, 24, 25, 26, 27, 28, 29, 30, 31, 32, 33, 34, 35, 36, 37, 38, 39, 40, 41, 42, 43, 44, 45, 46, 47, 48, 49, 50, 51, 52, 53, 54, 55, 56, 57, 58, 59, 60, 61, 62, 167, 168, 169, 170, 171, 172, 173, 174, 175, 176, 177, 178, 179, 180, 181, 182, 183, 184] (by decide +kernel) (by decide +kernel)
set_option maxRecDepth 20000 in
theorem gX12_arrange_X6_take : GoodIn wsX12_arrange (wsV RX12 212 RX6 yX6_take wsX6_take) := goodIn_app (goodIn_of _ (by decide +kernel)) ggX12_arrange_X6_take
set_option maxRecDepth 20000 in
theorem ggX12_arrange_X12_entryAt : GoodIn wsX12_arrange wsX12_entryAt := goodIn_r _ [67, 4, 68, 129, 130, 131, 132, 133, 134, 135, 136, 137, 138, 139, 140, 141, 142, 143, 144, 145, 146, 147, 148] (by decide +kernel) (by decide +kernel)
set_option maxRecDepth 20000 in
theorem gX12_arrange_X12_entryAt : GoodIn wsX12_arrange (wsV RX12 189 RX12 yX12_entryAt wsX12_entryAt) := goodIn_app (goodIn_of _ (by decide +kernel)) ggX12_arrange_X12_entryAt
set_option maxRecDepth 20000 in
theorem ggX12_arrange_X12_standing : GoodIn wsX12_arrange wsX12_standing := goodIn_r _ [72, 5, 73, 74, 75, 76, 66, 77, 78, 79, 80, 81, 82, 83, 149, 150, 151, 152, 153, 154, 155, 156, 157, 158, 159, 160, 161, 162, 163, 164, 165, 166, 129, 130, 131, 132, 133, 134, 135, 136, 137, 138, 139, 140, 141, 142, 143, 144, 145, 146, 147, 148] (by decide +kernel) (by decide +kernel)
set_option maxRecDepth 20000 in
theorem gX12_arrange_X12_standing : GoodIn wsX12_arrange (wsV RX12 260 RX12 yX12_standing wsX12_standing) := goodIn_app (goodIn_of _ (by decide +kernel)) ggX12_arrange_X12_standing
set_option maxRecDepth 20000 in
theorem ggX12_arrange_X6_prepare : GoodIn wsX12_arrange wsX6_prepare := goodIn_r _ [87, 13, 88, 14, 89, 11, 12, 90, 91, 92, 93, 20, 94, 28, 30, 31, 32, 33, 34, 35, 29, 23, 95, 96, 97, 39, 98, 99, 167, 168, 169, 170, 171, 172, 149, 150, 151, 152, 153, 154, 155, 156, 157, 158, 159, 160, 161, 162, 163, 164, 165, 166, 173, 174, 175, 176, 177, 178, 179, 180, 181, 182, 183, 184] (by decide +kernel) (by decide +kernel)
set_option maxRecDepth 20000 in
theorem gX12_arrange_X6_prepare : GoodIn wsX12_arrange (wsV RX12 223 RX6 yX6_prepare wsX6_prepare) := goodIn_app (goodIn_of _ (by decide +kernel)) ggX12_arrange_X6_prepare
set_option maxRecDepth 20000 in
theorem ggX12_arrange_X12_insertIntoRow : GoodIn wsX12_arrange wsX12_insertIntoRow := goodIn_r _ [103, 1, 104, 2, 105, 106, 107, 108, 109, 63, 64, 65, 66, 67, 4, 68, 110, 111, 112, 9, 113, 114, 115, 116, 117, 118, 90, 15, 119, 120, 121, 122, 123, 124, 125, 126, 127, 128, 16, 129, 130, 131, 132, 133, 134, 135, 136, 137, 138, 139, 140, 141, 142, 143, 144, 145, 146, 147, 148, 149, 150, 151, 152, 153, 154, 155, 156, 157, 158, 159, 160, 161, 162, 163, 164, 165, 166, 167, 168, 169, 170, 171, 172] (by decide +kernel) (by decide +kernel)
set_option maxRecDepth 20000 in
theorem gX12_arrange_X12_insertIntoRow : GoodIn wsX12_arrange (wsV RX12 271 RX12 yX12_insertIntoRow wsX12_insertIntoRow) := goodIn_app (goodIn_of _ (by decide +kernel)) ggX12_arrange_X12_insertIntoRow
theorem dX12_arrange_0 : decode cX12_arrange 0 = .ok (.aload_n 0, 1) := by decide +kernel
theorem dX12_arrange_1 : decode cX12_arrange 1 = .ok (.iconst 0, 1) := by decide +kernel
theorem dX12_arrange_2 : decode cX12_arrange 2 = .ok (.putfield 268, 3) := by decide +kernel
theorem dX12_arrange_5 : decode cX12_arrange 5 = .ok (.aload_n 0, 1) := by decide +kernel
theorem dX12_arrange_6 : decode cX12_arrange 6 = .ok (.getfield 28, 3) := by decide +kernel
theorem dX12_arrange_9 : decode cX12_arrange 9 = .ok (.iload_n 1, 1) := by decide +kernel
theorem dX12_arrange_10 : decode cX12_arrange 10 = .ok (.aload_n 0, 1) := by decide +kernel
theorem dX12_arrange_11 : decode cX12_arrange 11 = .ok (.getfield 133, 3) := by decide +kernel
theorem dX12_arrange_14 : decode cX12_arrange 14 = .ok (.invokevirtual 212, 3) := by decide +kernel
theorem dX12_arrange_17 : decode cX12_arrange 17 = .ok (.iconst 0, 1) := by decide +kernel
theorem dX12_arrange_18 : decode cX12_arrange 18 = .ok (.istore_n 2, 1) := by decide +kernel
theorem dX12_arrange_19 : decode cX12_arrange 19 = .ok (.iload_n 2, 1) := by decide +kernel
theorem dX12_arrange_20 : decode cX12_arrange 20 = .ok (.aload_n 0, 1) := by decide +kernel
theorem dX12_arrange_21 : decode cX12_arrange 21 = .ok (.getfield 203, 3) := by decide +kernel
theorem dX12_arrange_24 : decode cX12_arrange 24 = .ok (.if_icmp .ge 49, 3) := by decide +kernel
theorem dX12_arrange_27 : decode cX12_arrange 27 = .ok (.aload_n 0, 1) := by decide +kernel
theorem dX12_arrange_28 : decode cX12_arrange 28 = .ok (.iload_n 2, 1) := by decide +kernel
theorem dX12_arrange_29 : decode cX12_arrange 29 = .ok (.invokevirtual 189, 3) := by decide +kernel
theorem dX12_arrange_32 : decode cX12_arrange 32 = .ok (.astore_n 3, 1) := by decide +kernel
theorem dX12_arrange_33 : decode cX12_arrange 33 = .ok (.aload_n 3, 1) := by decide +kernel
theorem dX12_arrange_34 : decode cX12_arrange 34 = .ok (.ifnull 33, 3) := by decide +kernel
theorem dX12_arrange_37 : decode cX12_arrange 37 = .ok (.aload_n 3, 1) := by decide +kernel
theorem dX12_arrange_38 : decode cX12_arrange 38 = .ok (.getfield 247, 3) := by decide +kernel
theorem dX12_arrange_41 : decode cX12_arrange 41 = .ok (.iconst (-1), 1) := by decide +kernel
theorem dX12_arrange_42 : decode cX12_arrange 42 = .ok (.if_icmp .ne 25, 3) := by decide +kernel
theorem dX12_arrange_45 : decode cX12_arrange 45 = .ok (.aload_n 0, 1) := by decide +kernel
theorem dX12_arrange_46 : decode cX12_arrange 46 = .ok (.aload_n 3, 1) := by decide +kernel
theorem dX12_arrange_47 : decode cX12_arrange 47 = .ok (.invokevirtual 260, 3) := by decide +kernel
theorem dX12_arrange_50 : decode cX12_arrange 50 = .ok (.iload_n 1, 1) := by decide +kernel
theorem dX12_arrange_51 : decode cX12_arrange 51 = .ok (.if_icmp .ne 16, 3) := by decide +kernel
theorem dX12_arrange_54 : decode cX12_arrange 54 = .ok (.aload_n 0, 1) := by decide +kernel
theorem dX12_arrange_55 : decode cX12_arrange 55 = .ok (.getfield 28, 3) := by decide +kernel
theorem dX12_arrange_58 : decode cX12_arrange 58 = .ok (.aload_n 3, 1) := by decide +kernel
theorem dX12_arrange_59 : decode cX12_arrange 59 = .ok (.invokevirtual 223, 3) := by decide +kernel
theorem dX12_arrange_62 : decode cX12_arrange 62 = .ok (.aload_n 0, 1) := by decide +kernel
theorem dX12_arrange_63 : decode cX12_arrange 63 = .ok (.aload_n 3, 1) := by decide +kernel
theorem dX12_arrange_64 : decode cX12_arrange 64 = .ok (.invokevirtual 271, 3) := by decide +kernel
theorem dX12_arrange_67 : decode cX12_arrange 67 = .ok (.iinc 2 1, 3) := by decide +kernel
theorem dX12_arrange_70 : decode cX12_arrange 70 = .ok (.goto (-51), 3) := by decide +kernel
theorem dX12_arrange_73 : decode cX12_arrange 73 = .ok (.return_, 1) := by decide +kernel
set_option maxRecDepth 20000 in
theorem ggX12_insertIntoRow_X12_entryAt : GoodIn wsX12_insertIntoRow wsX12_entryAt := goodIn_r _ [13, 14, 15, 39, 40, 41, 42, 43, 44, 45, 46, 47, 48, 49, 50, 51, 52, 53, 54, 55, 56, 57, 58] (by decide +kernel) (by decide +kernel)
set_option maxRecDepth 20000 in
theorem gX12_insertIntoRow_X12_entryAt : GoodIn wsX12_insertIntoRow (wsV RX12 189 RX12 yX12_entryAt wsX12_entryAt) := goodIn_app (goodIn_of _ (by decide +kernel)) ggX12_insertIntoRow_X12_entryAt
set_option maxRecDepth 20000 in
theorem ggX12_insertIntoRow_X6_isAhead : GoodIn wsX12_insertIntoRow wsX6_isAhead := goodIn_r _ [20, 21, 22, 23, 24, 19, 25, 26, 27, 28, 29, 30, 31, 32, 33, 34, 35, 36, 37, 38, 59, 60, 61, 62, 63, 64, 65, 66, 67, 68, 69, 70, 71, 72, 73, 74, 75, 76, 77, 78, 79, 80, 81, 82] (by decide +kernel) (by decide +kernel)
set_option maxRecDepth 20000 in
theorem gX12_insertIntoRow_X6_isAhead : GoodIn wsX12_insertIntoRow (wsV RX12 274 RX6 yX6_isAhead wsX6_isAhead) := goodIn_app (goodIn_of _ (by decide +kernel)) ggX12_insertIntoRow_X6_isAhead
theorem dX12_insertIntoRow_0 : decode cX12_insertIntoRow 0 = .ok (.aload_n 0, 1) := by decide +kernel
theorem dX12_insertIntoRow_1 : decode cX12_insertIntoRow 1 = .ok (.getfield 268, 3) := by decide +kernel
theorem dX12_insertIntoRow_4 : decode cX12_insertIntoRow 4 = .ok (.ifCond .lt 15, 3) := by decide +kernel
theorem dX12_insertIntoRow_7 : decode cX12_insertIntoRow 7 = .ok (.aload_n 0, 1) := by decide +kernel
theorem dX12_insertIntoRow_8 : decode cX12_insertIntoRow 8 = .ok (.getfield 268, 3) := by decide +kernel
theorem dX12_insertIntoRow_11 : decode cX12_insertIntoRow 11 = .ok (.aload_n 0, 1) := by decide +kernel
theorem dX12_insertIntoRow_12 : decode cX12_insertIntoRow 12 = .ok (.getfield 47, 3) := by decide +kernel
theorem dX12_insertIntoRow_15 : decode cX12_insertIntoRow 15 = .ok (.arraylength, 1) := by decide +kernel
theorem dX12_insertIntoRow_16 : decode cX12_insertIntoRow 16 = .ok (.if_icmp .lt 4, 3) := by decide +kernel
theorem dX12_insertIntoRow_19 : decode cX12_insertIntoRow 19 = .ok (.return_, 1) := by decide +kernel
theorem dX12_insertIntoRow_20 : decode cX12_insertIntoRow 20 = .ok (.iconst 0, 1) := by decide +kernel
theorem dX12_insertIntoRow_21 : decode cX12_insertIntoRow 21 = .ok (.istore_n 2, 1) := by decide +kernel
theorem dX12_insertIntoRow_22 : decode cX12_insertIntoRow 22 = .ok (.aload_n 0, 1) := by decide +kernel
theorem dX12_insertIntoRow_23 : decode cX12_insertIntoRow 23 = .ok (.getfield 268, 3) := by decide +kernel
theorem dX12_insertIntoRow_26 : decode cX12_insertIntoRow 26 = .ok (.istore_n 3, 1) := by decide +kernel
theorem dX12_insertIntoRow_27 : decode cX12_insertIntoRow 27 = .ok (.iconst 0, 1) := by decide +kernel
theorem dX12_insertIntoRow_28 : decode cX12_insertIntoRow 28 = .ok (.istore 4, 2) := by decide +kernel
theorem dX12_insertIntoRow_30 : decode cX12_insertIntoRow 30 = .ok (.iload 4, 2) := by decide +kernel
theorem dX12_insertIntoRow_32 : decode cX12_insertIntoRow 32 = .ok (.bipush 60, 2) := by decide +kernel
theorem dX12_insertIntoRow_34 : decode cX12_insertIntoRow 34 = .ok (.if_icmp .ge 63, 3) := by decide +kernel
theorem dX12_insertIntoRow_37 : decode cX12_insertIntoRow 37 = .ok (.iload_n 2, 1) := by decide +kernel
theorem dX12_insertIntoRow_38 : decode cX12_insertIntoRow 38 = .ok (.iload_n 3, 1) := by decide +kernel
theorem dX12_insertIntoRow_39 : decode cX12_insertIntoRow 39 = .ok (.if_icmp .ge 58, 3) := by decide +kernel
theorem dX12_insertIntoRow_42 : decode cX12_insertIntoRow 42 = .ok (.iload_n 2, 1) := by decide +kernel
theorem dX12_insertIntoRow_43 : decode cX12_insertIntoRow 43 = .ok (.iload_n 3, 1) := by decide +kernel
theorem dX12_insertIntoRow_44 : decode cX12_insertIntoRow 44 = .ok (.iadd, 1) := by decide +kernel
theorem dX12_insertIntoRow_45 : decode cX12_insertIntoRow 45 = .ok (.iconst 1, 1) := by decide +kernel
theorem dX12_insertIntoRow_46 : decode cX12_insertIntoRow 46 = .ok (.iushr, 1) := by decide +kernel
theorem dX12_insertIntoRow_47 : decode cX12_insertIntoRow 47 = .ok (.istore 5, 2) := by decide +kernel
theorem dX12_insertIntoRow_49 : decode cX12_insertIntoRow 49 = .ok (.aload_n 0, 1) := by decide +kernel
theorem dX12_insertIntoRow_50 : decode cX12_insertIntoRow 50 = .ok (.aload_n 0, 1) := by decide +kernel
theorem dX12_insertIntoRow_51 : decode cX12_insertIntoRow 51 = .ok (.getfield 47, 3) := by decide +kernel
theorem dX12_insertIntoRow_54 : decode cX12_insertIntoRow 54 = .ok (.iload 5, 2) := by decide +kernel
theorem dX12_insertIntoRow_56 : decode cX12_insertIntoRow 56 = .ok (.iaload, 1) := by decide +kernel
theorem dX12_insertIntoRow_57 : decode cX12_insertIntoRow 57 = .ok (.invokevirtual 189, 3) := by decide +kernel
theorem dX12_insertIntoRow_60 : decode cX12_insertIntoRow 60 = .ok (.astore 6, 2) := by decide +kernel
theorem dX12_insertIntoRow_62 : decode cX12_insertIntoRow 62 = .ok (.aload 6, 2) := by decide +kernel
theorem dX12_insertIntoRow_64 : decode cX12_insertIntoRow 64 = .ok (.ifnull 22, 3) := by decide +kernel
theorem dX12_insertIntoRow_67 : decode cX12_insertIntoRow 67 = .ok (.aload_n 0, 1) := by decide +kernel
theorem dX12_insertIntoRow_68 : decode cX12_insertIntoRow 68 = .ok (.getfield 28, 3) := by decide +kernel
theorem dX12_insertIntoRow_71 : decode cX12_insertIntoRow 71 = .ok (.aload_n 1, 1) := by decide +kernel
theorem dX12_insertIntoRow_72 : decode cX12_insertIntoRow 72 = .ok (.aload 6, 2) := by decide +kernel
theorem dX12_insertIntoRow_74 : decode cX12_insertIntoRow 74 = .ok (.invokevirtual 274, 3) := by decide +kernel
theorem dX12_insertIntoRow_77 : decode cX12_insertIntoRow 77 = .ok (.ifCond .eq 9, 3) := by decide +kernel
theorem dX12_insertIntoRow_80 : decode cX12_insertIntoRow 80 = .ok (.iload 5, 2) := by decide +kernel
theorem dX12_insertIntoRow_82 : decode cX12_insertIntoRow 82 = .ok (.istore_n 3, 1) := by decide +kernel
theorem dX12_insertIntoRow_83 : decode cX12_insertIntoRow 83 = .ok (.goto 8, 3) := by decide +kernel
theorem dX12_insertIntoRow_86 : decode cX12_insertIntoRow 86 = .ok (.iload 5, 2) := by decide +kernel
theorem dX12_insertIntoRow_88 : decode cX12_insertIntoRow 88 = .ok (.iconst 1, 1) := by decide +kernel
theorem dX12_insertIntoRow_89 : decode cX12_insertIntoRow 89 = .ok (.iadd, 1) := by decide +kernel
theorem dX12_insertIntoRow_90 : decode cX12_insertIntoRow 90 = .ok (.istore_n 2, 1) := by decide +kernel
theorem dX12_insertIntoRow_91 : decode cX12_insertIntoRow 91 = .ok (.iinc 4 1, 3) := by decide +kernel
theorem dX12_insertIntoRow_94 : decode cX12_insertIntoRow 94 = .ok (.goto (-64), 3) := by decide +kernel
theorem dX12_insertIntoRow_97 : decode cX12_insertIntoRow 97 = .ok (.aload_n 0, 1) := by decide +kernel
theorem dX12_insertIntoRow_98 : decode cX12_insertIntoRow 98 = .ok (.getfield 47, 3) := by decide +kernel
theorem dX12_insertIntoRow_101 : decode cX12_insertIntoRow 101 = .ok (.iload_n 2, 1) := by decide +kernel
theorem dX12_insertIntoRow_102 : decode cX12_insertIntoRow 102 = .ok (.aload_n 0, 1) := by decide +kernel
theorem dX12_insertIntoRow_103 : decode cX12_insertIntoRow 103 = .ok (.getfield 47, 3) := by decide +kernel
theorem dX12_insertIntoRow_106 : decode cX12_insertIntoRow 106 = .ok (.iload_n 2, 1) := by decide +kernel
theorem dX12_insertIntoRow_107 : decode cX12_insertIntoRow 107 = .ok (.iconst 1, 1) := by decide +kernel
theorem dX12_insertIntoRow_108 : decode cX12_insertIntoRow 108 = .ok (.iadd, 1) := by decide +kernel
theorem dX12_insertIntoRow_109 : decode cX12_insertIntoRow 109 = .ok (.aload_n 0, 1) := by decide +kernel
theorem dX12_insertIntoRow_110 : decode cX12_insertIntoRow 110 = .ok (.getfield 268, 3) := by decide +kernel
theorem dX12_insertIntoRow_113 : decode cX12_insertIntoRow 113 = .ok (.iload_n 2, 1) := by decide +kernel
theorem dX12_insertIntoRow_114 : decode cX12_insertIntoRow 114 = .ok (.isub, 1) := by decide +kernel
theorem dX12_insertIntoRow_115 : decode cX12_insertIntoRow 115 = .ok (.invokestatic 278, 3) := by decide +kernel
theorem dX12_insertIntoRow_118 : decode cX12_insertIntoRow 118 = .ok (.aload_n 0, 1) := by decide +kernel
theorem dX12_insertIntoRow_119 : decode cX12_insertIntoRow 119 = .ok (.getfield 47, 3) := by decide +kernel
theorem dX12_insertIntoRow_122 : decode cX12_insertIntoRow 122 = .ok (.iload_n 2, 1) := by decide +kernel
theorem dX12_insertIntoRow_123 : decode cX12_insertIntoRow 123 = .ok (.aload_n 1, 1) := by decide +kernel
theorem dX12_insertIntoRow_124 : decode cX12_insertIntoRow 124 = .ok (.getfield 186, 3) := by decide +kernel
theorem dX12_insertIntoRow_127 : decode cX12_insertIntoRow 127 = .ok (.iastore, 1) := by decide +kernel
theorem dX12_insertIntoRow_128 : decode cX12_insertIntoRow 128 = .ok (.aload_n 0, 1) := by decide +kernel
theorem dX12_insertIntoRow_129 : decode cX12_insertIntoRow 129 = .ok (.dup, 1) := by decide +kernel
theorem dX12_insertIntoRow_130 : decode cX12_insertIntoRow 130 = .ok (.getfield 268, 3) := by decide +kernel
theorem dX12_insertIntoRow_133 : decode cX12_insertIntoRow 133 = .ok (.iconst 1, 1) := by decide +kernel
theorem dX12_insertIntoRow_134 : decode cX12_insertIntoRow 134 = .ok (.iadd, 1) := by decide +kernel
theorem dX12_insertIntoRow_135 : decode cX12_insertIntoRow 135 = .ok (.putfield 268, 3) := by decide +kernel
theorem dX12_insertIntoRow_138 : decode cX12_insertIntoRow 138 = .ok (.return_, 1) := by decide +kernel
set_option maxRecDepth 20000 in
theorem ggX12_inRow_X12_entryAt : GoodIn wsX12_inRow wsX12_entryAt := goodIn_r _ [7, 8, 9, 10, 11, 12, 13, 14, 15, 16, 17, 18, 19, 20, 21, 22, 23, 24, 25, 26, 27, 28, 29] (by decide +kernel) (by decide +kernel)
set_option maxRecDepth 20000 in
theorem gX12_inRow_X12_entryAt : GoodIn wsX12_inRow (wsV RX12 189 RX12 yX12_entryAt wsX12_entryAt) := goodIn_app (goodIn_of _ (by decide +kernel)) ggX12_inRow_X12_entryAt
theorem dX12_inRow_0 : decode cX12_inRow 0 = .ok (.iload_n 1, 1) := by decide +kernel
theorem dX12_inRow_1 : decode cX12_inRow 1 = .ok (.ifCond .lt 33, 3) := by decide +kernel
theorem dX12_inRow_4 : decode cX12_inRow 4 = .ok (.iload_n 1, 1) := by decide +kernel
theorem dX12_inRow_5 : decode cX12_inRow 5 = .ok (.aload_n 0, 1) := by decide +kernel
theorem dX12_inRow_6 : decode cX12_inRow 6 = .ok (.getfield 268, 3) := by decide +kernel
theorem dX12_inRow_9 : decode cX12_inRow 9 = .ok (.if_icmp .ge 25, 3) := by decide +kernel
theorem dX12_inRow_12 : decode cX12_inRow 12 = .ok (.iload_n 1, 1) := by decide +kernel
theorem dX12_inRow_13 : decode cX12_inRow 13 = .ok (.aload_n 0, 1) := by decide +kernel
theorem dX12_inRow_14 : decode cX12_inRow 14 = .ok (.getfield 47, 3) := by decide +kernel
theorem dX12_inRow_17 : decode cX12_inRow 17 = .ok (.arraylength, 1) := by decide +kernel
theorem dX12_inRow_18 : decode cX12_inRow 18 = .ok (.if_icmp .ge 16, 3) := by decide +kernel
theorem dX12_inRow_21 : decode cX12_inRow 21 = .ok (.aload_n 0, 1) := by decide +kernel
theorem dX12_inRow_22 : decode cX12_inRow 22 = .ok (.aload_n 0, 1) := by decide +kernel
theorem dX12_inRow_23 : decode cX12_inRow 23 = .ok (.getfield 47, 3) := by decide +kernel
theorem dX12_inRow_26 : decode cX12_inRow 26 = .ok (.iload_n 1, 1) := by decide +kernel
theorem dX12_inRow_27 : decode cX12_inRow 27 = .ok (.iaload, 1) := by decide +kernel
theorem dX12_inRow_28 : decode cX12_inRow 28 = .ok (.invokevirtual 189, 3) := by decide +kernel
theorem dX12_inRow_31 : decode cX12_inRow 31 = .ok (.goto 4, 3) := by decide +kernel
theorem dX12_inRow_34 : decode cX12_inRow 34 = .ok (.aconst_null, 1) := by decide +kernel
theorem dX12_inRow_35 : decode cX12_inRow 35 = .ok (.areturn, 1) := by decide +kernel
set_option maxRecDepth 20000 in
theorem ggX12_why_X12_entryAt : GoodIn wsX12_why wsX12_entryAt := goodIn_r _ [7, 8, 9, 107, 108, 109, 110, 111, 112, 113, 114, 115, 116, 117, 118, 119, 120, 121, 122, 123, 124, 125, 126] (by decide +kernel) (by decide +kernel)
set_option maxRecDepth 20000 in
theorem gX12_why_X12_entryAt : GoodIn wsX12_why (wsV RX12 189 RX12 yX12_entryAt wsX12_entryAt) := goodIn_app (goodIn_of _ (by decide +kernel)) ggX12_why_X12_entryAt
set_option maxRecDepth 20000 in
theorem ggX12_why_X6_take : GoodIn wsX12_why wsX6_take := goodIn_r _ [14, 15, 16, 17, 18, 19, 20, 21, 22, 23, 24, 25, 26, 27, 28, 29, 30, 31, 32, 33, 34, 35, 36, 37, 38, 39, 40, 41, 42, 43, 44, 45, 46, 47, 48, 49, 50, 51, 52, 53, 54, 55, 56, 57, 58, 59, 60, 61, 62, 63, 64, 65, 66, 127, 128, 129, 130, 131, 132, 133, 134, 135, 136, 137, 138, 139, 140, 141, 142, 143, 144] (by decide +kernel) (by decide +kernel)
set_option maxRecDepth 20000 in
theorem gX12_why_X6_take : GoodIn wsX12_why (wsV RX12 212 RX6 yX6_take wsX6_take) := goodIn_app (goodIn_of _ (by decide +kernel)) ggX12_why_X6_take
set_option maxRecDepth 20000 in
theorem ggX12_why_X6_prepare : GoodIn wsX12_why wsX6_prepare := goodIn_r _ [70, 17, 71, 18, 72, 15, 16, 73, 74, 75, 76, 24, 77, 32, 34, 35, 36, 37, 38, 39, 33, 27, 78, 79, 80, 43, 81, 82, 127, 128, 129, 130, 131, 132, 145, 146, 147, 148, 149, 150, 151, 152, 153, 154, 155, 156, 157, 158, 159, 160, 161, 162, 133, 134, 135, 136, 137, 138, 139, 140, 141, 142, 143, 144] (by decide +kernel) (by decide +kernel)
set_option maxRecDepth 20000 in
theorem gX12_why_X6_prepare : GoodIn wsX12_why (wsV RX12 223 RX6 yX6_prepare wsX6_prepare) := goodIn_app (goodIn_of _ (by decide +kernel)) ggX12_why_X6_prepare
set_option maxRecDepth 20000 in
theorem ggX12_why_X6_compareKeys : GoodIn wsX12_why wsX6_compareKeys := goodIn_r _ [86, 73, 19, 87, 88, 89, 90, 91, 92, 93, 94, 95, 13, 96, 20, 145, 146, 147, 148, 149, 150, 151, 152, 153, 154, 155, 156, 157, 158, 159, 160, 161, 162, 127, 128, 129, 130, 131, 132] (by decide +kernel) (by decide +kernel)
set_option maxRecDepth 20000 in
theorem gX12_why_X6_compareKeys : GoodIn wsX12_why (wsV RX12 284 RX6 yX6_compareKeys wsX6_compareKeys) := goodIn_app (goodIn_of _ (by decide +kernel)) ggX12_why_X6_compareKeys
set_option maxRecDepth 20000 in
theorem ggX12_why_X6_isAhead : GoodIn wsX12_why wsX6_isAhead := goodIn_r _ [100, 101, 102, 84, 85, 13, 86, 73, 19, 87, 88, 89, 90, 91, 92, 93, 94, 95, 96, 20, 145, 146, 147, 148, 149, 150, 151, 152, 153, 154, 155, 156, 157, 158, 159, 160, 161, 162, 127, 128, 129, 130, 131, 132] (by decide +kernel) (by decide +kernel)
set_option maxRecDepth 20000 in
theorem gX12_why_X6_isAhead : GoodIn wsX12_why (wsV RX12 274 RX6 yX6_isAhead wsX6_isAhead) := goodIn_app (goodIn_of _ (by decide +kernel)) ggX12_why_X6_isAhead
set_option maxRecDepth 20000 in
theorem ggX12_why_X6_turn : GoodIn wsX12_why wsX6_turn := goodIn_r _ [106, 17, 19, 20, 127, 128, 129, 130, 131, 132] (by decide +kernel) (by decide +kernel)
set_option maxRecDepth 20000 in
theorem gX12_why_X6_turn : GoodIn wsX12_why (wsV RX12 288 RX6 yX6_turn wsX6_turn) := goodIn_app (goodIn_of _ (by decide +kernel)) ggX12_why_X6_turn
theorem dX12_why_0 : decode cX12_why 0 = .ok (.aload_n 0, 1) := by decide +kernel
theorem dX12_why_1 : decode cX12_why 1 = .ok (.iload_n 1, 1) := by decide +kernel
theorem dX12_why_2 : decode cX12_why 2 = .ok (.invokevirtual 189, 3) := by decide +kernel
theorem dX12_why_5 : decode cX12_why 5 = .ok (.astore_n 3, 1) := by decide +kernel
theorem dX12_why_6 : decode cX12_why 6 = .ok (.aload_n 0, 1) := by decide +kernel
theorem dX12_why_7 : decode cX12_why 7 = .ok (.iload_n 2, 1) := by decide +kernel
theorem dX12_why_8 : decode cX12_why 8 = .ok (.invokevirtual 189, 3) := by decide +kernel
theorem dX12_why_11 : decode cX12_why 11 = .ok (.astore 4, 2) := by decide +kernel
theorem dX12_why_13 : decode cX12_why 13 = .ok (.aload_n 3, 1) := by decide +kernel
theorem dX12_why_14 : decode cX12_why 14 = .ok (.ifnull 13, 3) := by decide +kernel
theorem dX12_why_17 : decode cX12_why 17 = .ok (.aload 4, 2) := by decide +kernel
theorem dX12_why_19 : decode cX12_why 19 = .ok (.ifnull 8, 3) := by decide +kernel
theorem dX12_why_22 : decode cX12_why 22 = .ok (.iload_n 1, 1) := by decide +kernel
theorem dX12_why_23 : decode cX12_why 23 = .ok (.iload_n 2, 1) := by decide +kernel
theorem dX12_why_24 : decode cX12_why 24 = .ok (.if_icmp .ne 5, 3) := by decide +kernel
theorem dX12_why_27 : decode cX12_why 27 = .ok (.iconst (-1), 1) := by decide +kernel
theorem dX12_why_28 : decode cX12_why 28 = .ok (.ireturn, 1) := by decide +kernel
theorem dX12_why_29 : decode cX12_why 29 = .ok (.aload_n 0, 1) := by decide +kernel
theorem dX12_why_30 : decode cX12_why 30 = .ok (.getfield 28, 3) := by decide +kernel
theorem dX12_why_33 : decode cX12_why 33 = .ok (.iconst (-1), 1) := by decide +kernel
theorem dX12_why_34 : decode cX12_why 34 = .ok (.aload_n 0, 1) := by decide +kernel
theorem dX12_why_35 : decode cX12_why 35 = .ok (.getfield 133, 3) := by decide +kernel
theorem dX12_why_38 : decode cX12_why 38 = .ok (.invokevirtual 212, 3) := by decide +kernel
theorem dX12_why_41 : decode cX12_why 41 = .ok (.aload_n 0, 1) := by decide +kernel
theorem dX12_why_42 : decode cX12_why 42 = .ok (.getfield 28, 3) := by decide +kernel
theorem dX12_why_45 : decode cX12_why 45 = .ok (.aload_n 3, 1) := by decide +kernel
theorem dX12_why_46 : decode cX12_why 46 = .ok (.invokevirtual 223, 3) := by decide +kernel
theorem dX12_why_49 : decode cX12_why 49 = .ok (.aload_n 0, 1) := by decide +kernel
theorem dX12_why_50 : decode cX12_why 50 = .ok (.getfield 28, 3) := by decide +kernel
theorem dX12_why_53 : decode cX12_why 53 = .ok (.aload 4, 2) := by decide +kernel
theorem dX12_why_55 : decode cX12_why 55 = .ok (.invokevirtual 223, 3) := by decide +kernel
theorem dX12_why_58 : decode cX12_why 58 = .ok (.aload_n 0, 1) := by decide +kernel
theorem dX12_why_59 : decode cX12_why 59 = .ok (.getfield 28, 3) := by decide +kernel
theorem dX12_why_62 : decode cX12_why 62 = .ok (.aload_n 3, 1) := by decide +kernel
theorem dX12_why_63 : decode cX12_why 63 = .ok (.aload 4, 2) := by decide +kernel
theorem dX12_why_65 : decode cX12_why 65 = .ok (.invokevirtual 284, 3) := by decide +kernel
theorem dX12_why_68 : decode cX12_why 68 = .ok (.ifCond .ne 5, 3) := by decide +kernel
theorem dX12_why_71 : decode cX12_why 71 = .ok (.iconst 4, 1) := by decide +kernel
theorem dX12_why_72 : decode cX12_why 72 = .ok (.ireturn, 1) := by decide +kernel
theorem dX12_why_73 : decode cX12_why 73 = .ok (.aload_n 0, 1) := by decide +kernel
theorem dX12_why_74 : decode cX12_why 74 = .ok (.getfield 28, 3) := by decide +kernel
theorem dX12_why_77 : decode cX12_why 77 = .ok (.aload_n 3, 1) := by decide +kernel
theorem dX12_why_78 : decode cX12_why 78 = .ok (.aload 4, 2) := by decide +kernel
theorem dX12_why_80 : decode cX12_why 80 = .ok (.invokevirtual 274, 3) := by decide +kernel
theorem dX12_why_83 : decode cX12_why 83 = .ok (.istore 5, 2) := by decide +kernel
theorem dX12_why_85 : decode cX12_why 85 = .ok (.iconst 1, 1) := by decide +kernel
theorem dX12_why_86 : decode cX12_why 86 = .ok (.istore 6, 2) := by decide +kernel
theorem dX12_why_88 : decode cX12_why 88 = .ok (.iload 6, 2) := by decide +kernel
theorem dX12_why_90 : decode cX12_why 90 = .ok (.iconst 3, 1) := by decide +kernel
theorem dX12_why_91 : decode cX12_why 91 = .ok (.if_icmp .gt 65, 3) := by decide +kernel
theorem dX12_why_94 : decode cX12_why 94 = .ok (.aload_n 0, 1) := by decide +kernel
theorem dX12_why_95 : decode cX12_why 95 = .ok (.getfield 28, 3) := by decide +kernel
theorem dX12_why_98 : decode cX12_why 98 = .ok (.iconst (-1), 1) := by decide +kernel
theorem dX12_why_99 : decode cX12_why 99 = .ok (.aload_n 0, 1) := by decide +kernel
theorem dX12_why_100 : decode cX12_why 100 = .ok (.getfield 133, 3) := by decide +kernel
theorem dX12_why_103 : decode cX12_why 103 = .ok (.invokevirtual 212, 3) := by decide +kernel
theorem dX12_why_106 : decode cX12_why 106 = .ok (.aload_n 0, 1) := by decide +kernel
theorem dX12_why_107 : decode cX12_why 107 = .ok (.getfield 28, 3) := by decide +kernel
theorem dX12_why_110 : decode cX12_why 110 = .ok (.iload 6, 2) := by decide +kernel
theorem dX12_why_112 : decode cX12_why 112 = .ok (.invokevirtual 288, 3) := by decide +kernel
theorem dX12_why_115 : decode cX12_why 115 = .ok (.aload_n 0, 1) := by decide +kernel
theorem dX12_why_116 : decode cX12_why 116 = .ok (.getfield 28, 3) := by decide +kernel
theorem dX12_why_119 : decode cX12_why 119 = .ok (.aload_n 3, 1) := by decide +kernel
theorem dX12_why_120 : decode cX12_why 120 = .ok (.invokevirtual 223, 3) := by decide +kernel
theorem dX12_why_123 : decode cX12_why 123 = .ok (.aload_n 0, 1) := by decide +kernel
theorem dX12_why_124 : decode cX12_why 124 = .ok (.getfield 28, 3) := by decide +kernel
theorem dX12_why_127 : decode cX12_why 127 = .ok (.aload 4, 2) := by decide +kernel
theorem dX12_why_129 : decode cX12_why 129 = .ok (.invokevirtual 223, 3) := by decide +kernel
theorem dX12_why_132 : decode cX12_why 132 = .ok (.aload_n 0, 1) := by decide +kernel
theorem dX12_why_133 : decode cX12_why 133 = .ok (.getfield 28, 3) := by decide +kernel
theorem dX12_why_136 : decode cX12_why 136 = .ok (.aload_n 3, 1) := by decide +kernel
theorem dX12_why_137 : decode cX12_why 137 = .ok (.aload 4, 2) := by decide +kernel
theorem dX12_why_139 : decode cX12_why 139 = .ok (.invokevirtual 274, 3) := by decide +kernel
theorem dX12_why_142 : decode cX12_why 142 = .ok (.iload 5, 2) := by decide +kernel
theorem dX12_why_144 : decode cX12_why 144 = .ok (.if_icmp .eq 6, 3) := by decide +kernel
theorem dX12_why_147 : decode cX12_why 147 = .ok (.iload 6, 2) := by decide +kernel
theorem dX12_why_149 : decode cX12_why 149 = .ok (.ireturn, 1) := by decide +kernel
theorem dX12_why_150 : decode cX12_why 150 = .ok (.iinc 6 1, 3) := by decide +kernel
theorem dX12_why_153 : decode cX12_why 153 = .ok (.goto (-65), 3) := by decide +kernel
theorem dX12_why_156 : decode cX12_why 156 = .ok (.iconst 0, 1) := by decide +kernel
theorem dX12_why_157 : decode cX12_why 157 = .ok (.ireturn, 1) := by decide +kernel
set_option maxRecDepth 20000 in
theorem ggX12_hand_X2_init : GoodIn wsX12_hand wsX2_init := goodIn_r _ [9, 10, 11, 12, 13, 14, 15, 16, 37, 38, 39, 40, 41, 42] (by decide +kernel) (by decide +kernel)
set_option maxRecDepth 20000 in
theorem gX12_hand_X2_init : GoodIn wsX12_hand (wsX2_init) := ggX12_hand_X2_init
theorem dX12_hand_0 : decode cX12_hand 0 = .ok (.iload_n 1, 1) := by decide +kernel
theorem dX12_hand_1 : decode cX12_hand 1 = .ok (.iconst 1, 1) := by decide +kernel
theorem dX12_hand_2 : decode cX12_hand 2 = .ok (.if_icmp .lt 36, 3) := by decide +kernel
theorem dX12_hand_5 : decode cX12_hand 5 = .ok (.iload_n 1, 1) := by decide +kernel
theorem dX12_hand_6 : decode cX12_hand 6 = .ok (.sipush 255, 3) := by decide +kernel
theorem dX12_hand_9 : decode cX12_hand 9 = .ok (.if_icmp .gt 29, 3) := by decide +kernel
theorem dX12_hand_12 : decode cX12_hand 12 = .ok (.iload_n 2, 1) := by decide +kernel
theorem dX12_hand_13 : decode cX12_hand 13 = .ok (.iconst 1, 1) := by decide +kernel
theorem dX12_hand_14 : decode cX12_hand 14 = .ok (.if_icmp .lt 24, 3) := by decide +kernel
theorem dX12_hand_17 : decode cX12_hand 17 = .ok (.iload_n 2, 1) := by decide +kernel
theorem dX12_hand_18 : decode cX12_hand 18 = .ok (.bipush 20, 2) := by decide +kernel
theorem dX12_hand_20 : decode cX12_hand 20 = .ok (.if_icmp .gt 18, 3) := by decide +kernel
theorem dX12_hand_23 : decode cX12_hand 23 = .ok (.iload_n 3, 1) := by decide +kernel
theorem dX12_hand_24 : decode cX12_hand 24 = .ok (.ldc_w 291, 3) := by decide +kernel
theorem dX12_hand_27 : decode cX12_hand 27 = .ok (.if_icmp .lt 11, 3) := by decide +kernel
theorem dX12_hand_30 : decode cX12_hand 30 = .ok (.iload_n 3, 1) := by decide +kernel
theorem dX12_hand_31 : decode cX12_hand 31 = .ok (.ifCond .gt 7, 3) := by decide +kernel
theorem dX12_hand_34 : decode cX12_hand 34 = .ok (.iconst 1, 1) := by decide +kernel
theorem dX12_hand_35 : decode cX12_hand 35 = .ok (.goto 4, 3) := by decide +kernel
theorem dX12_hand_38 : decode cX12_hand 38 = .ok (.iconst 0, 1) := by decide +kernel
theorem dX12_hand_39 : decode cX12_hand 39 = .ok (.istore 4, 2) := by decide +kernel
theorem dX12_hand_41 : decode cX12_hand 41 = .ok (.iload 4, 2) := by decide +kernel
theorem dX12_hand_43 : decode cX12_hand 43 = .ok (.ifCond .eq 12, 3) := by decide +kernel
theorem dX12_hand_46 : decode cX12_hand 46 = .ok (.aload_n 0, 1) := by decide +kernel
theorem dX12_hand_47 : decode cX12_hand 47 = .ok (.getfield 292, 3) := by decide +kernel
theorem dX12_hand_50 : decode cX12_hand 50 = .ok (.bipush 12, 2) := by decide +kernel
theorem dX12_hand_52 : decode cX12_hand 52 = .ok (.if_icmp .lt 5, 3) := by decide +kernel
theorem dX12_hand_55 : decode cX12_hand 55 = .ok (.iconst (-1), 1) := by decide +kernel
theorem dX12_hand_56 : decode cX12_hand 56 = .ok (.ireturn, 1) := by decide +kernel
theorem dX12_hand_57 : decode cX12_hand 57 = .ok (.aload_n 0, 1) := by decide +kernel
theorem dX12_hand_58 : decode cX12_hand 58 = .ok (.getfield 53, 3) := by decide +kernel
theorem dX12_hand_61 : decode cX12_hand 61 = .ok (.aload_n 0, 1) := by decide +kernel
theorem dX12_hand_62 : decode cX12_hand 62 = .ok (.getfield 292, 3) := by decide +kernel
theorem dX12_hand_65 : decode cX12_hand 65 = .ok (.new 51, 3) := by decide +kernel
theorem dX12_hand_68 : decode cX12_hand 68 = .ok (.dup, 1) := by decide +kernel
theorem dX12_hand_69 : decode cX12_hand 69 = .ok (.iload_n 1, 1) := by decide +kernel
theorem dX12_hand_70 : decode cX12_hand 70 = .ok (.iload_n 2, 1) := by decide +kernel
theorem dX12_hand_71 : decode cX12_hand 71 = .ok (.iload_n 3, 1) := by decide +kernel
theorem dX12_hand_72 : decode cX12_hand 72 = .ok (.invokespecial 295, 3) := by decide +kernel
theorem dX12_hand_75 : decode cX12_hand 75 = .ok (.aastore, 1) := by decide +kernel
theorem dX12_hand_76 : decode cX12_hand 76 = .ok (.aload_n 0, 1) := by decide +kernel
theorem dX12_hand_77 : decode cX12_hand 77 = .ok (.dup, 1) := by decide +kernel
theorem dX12_hand_78 : decode cX12_hand 78 = .ok (.getfield 292, 3) := by decide +kernel
theorem dX12_hand_81 : decode cX12_hand 81 = .ok (.iconst 1, 1) := by decide +kernel
theorem dX12_hand_82 : decode cX12_hand 82 = .ok (.iadd, 1) := by decide +kernel
theorem dX12_hand_83 : decode cX12_hand 83 = .ok (.putfield 292, 3) := by decide +kernel
theorem dX12_hand_86 : decode cX12_hand 86 = .ok (.aload_n 0, 1) := by decide +kernel
theorem dX12_hand_87 : decode cX12_hand 87 = .ok (.getfield 292, 3) := by decide +kernel
theorem dX12_hand_90 : decode cX12_hand 90 = .ok (.iconst 1, 1) := by decide +kernel
theorem dX12_hand_91 : decode cX12_hand 91 = .ok (.isub, 1) := by decide +kernel
theorem dX12_hand_92 : decode cX12_hand 92 = .ok (.ireturn, 1) := by decide +kernel
theorem dX12_handAt_0 : decode cX12_handAt 0 = .ok (.iload_n 1, 1) := by decide +kernel
theorem dX12_handAt_1 : decode cX12_handAt 1 = .ok (.ifCond .lt 26, 3) := by decide +kernel
theorem dX12_handAt_4 : decode cX12_handAt 4 = .ok (.iload_n 1, 1) := by decide +kernel
theorem dX12_handAt_5 : decode cX12_handAt 5 = .ok (.aload_n 0, 1) := by decide +kernel
theorem dX12_handAt_6 : decode cX12_handAt 6 = .ok (.getfield 292, 3) := by decide +kernel
theorem dX12_handAt_9 : decode cX12_handAt 9 = .ok (.if_icmp .ge 18, 3) := by decide +kernel
theorem dX12_handAt_12 : decode cX12_handAt 12 = .ok (.iload_n 1, 1) := by decide +kernel
theorem dX12_handAt_13 : decode cX12_handAt 13 = .ok (.bipush 12, 2) := by decide +kernel
theorem dX12_handAt_15 : decode cX12_handAt 15 = .ok (.if_icmp .ge 12, 3) := by decide +kernel
theorem dX12_handAt_18 : decode cX12_handAt 18 = .ok (.aload_n 0, 1) := by decide +kernel
theorem dX12_handAt_19 : decode cX12_handAt 19 = .ok (.getfield 53, 3) := by decide +kernel
theorem dX12_handAt_22 : decode cX12_handAt 22 = .ok (.iload_n 1, 1) := by decide +kernel
theorem dX12_handAt_23 : decode cX12_handAt 23 = .ok (.aaload, 1) := by decide +kernel
theorem dX12_handAt_24 : decode cX12_handAt 24 = .ok (.goto 4, 3) := by decide +kernel
theorem dX12_handAt_27 : decode cX12_handAt 27 = .ok (.aconst_null, 1) := by decide +kernel
theorem dX12_handAt_28 : decode cX12_handAt 28 = .ok (.areturn, 1) := by decide +kernel
set_option maxRecDepth 20000 in
theorem ggX12_livingHandAt_X12_handAt : GoodIn wsX12_livingHandAt wsX12_handAt := goodIn_r _ [6, 7, 8, 15, 16, 17, 18, 19, 20, 21, 22, 23, 24, 25, 26, 27, 28, 29, 30, 31, 32, 33, 34] (by decide +kernel) (by decide +kernel)
set_option maxRecDepth 20000 in
theorem gX12_livingHandAt_X12_handAt : GoodIn wsX12_livingHandAt (wsV RX12 296 RX12 yX12_handAt wsX12_handAt) := goodIn_app (goodIn_of _ (by decide +kernel)) ggX12_livingHandAt_X12_handAt
theorem dX12_livingHandAt_0 : decode cX12_livingHandAt 0 = .ok (.aload_n 0, 1) := by decide +kernel
theorem dX12_livingHandAt_1 : decode cX12_livingHandAt 1 = .ok (.iload_n 1, 1) := by decide +kernel
theorem dX12_livingHandAt_2 : decode cX12_livingHandAt 2 = .ok (.invokevirtual 296, 3) := by decide +kernel
theorem dX12_livingHandAt_5 : decode cX12_livingHandAt 5 = .ok (.astore_n 2, 1) := by decide +kernel
theorem dX12_livingHandAt_6 : decode cX12_livingHandAt 6 = .ok (.aload_n 2, 1) := by decide +kernel
theorem dX12_livingHandAt_7 : decode cX12_livingHandAt 7 = .ok (.ifnull 14, 3) := by decide +kernel
theorem dX12_livingHandAt_10 : decode cX12_livingHandAt 10 = .ok (.aload_n 2, 1) := by decide +kernel
theorem dX12_livingHandAt_11 : decode cX12_livingHandAt 11 = .ok (.getfield 300, 3) := by decide +kernel
theorem dX12_livingHandAt_14 : decode cX12_livingHandAt 14 = .ok (.ifCond .eq 7, 3) := by decide +kernel
theorem dX12_livingHandAt_17 : decode cX12_livingHandAt 17 = .ok (.aload_n 2, 1) := by decide +kernel
theorem dX12_livingHandAt_18 : decode cX12_livingHandAt 18 = .ok (.goto 4, 3) := by decide +kernel
theorem dX12_livingHandAt_21 : decode cX12_livingHandAt 21 = .ok (.aconst_null, 1) := by decide +kernel
theorem dX12_livingHandAt_22 : decode cX12_livingHandAt 22 = .ok (.areturn, 1) := by decide +kernel
set_option maxRecDepth 20000 in
theorem ggX12_enemies_X12_handAt : GoodIn wsX12_enemies wsX12_handAt := goodIn_r _ [6, 7, 8, 15, 16, 17, 18, 19, 20, 21, 22, 23, 24, 25, 26, 27, 28, 29, 30, 31, 32, 33, 34] (by decide +kernel) (by decide +kernel)
set_option maxRecDepth 20000 in
theorem gX12_enemies_X12_handAt : GoodIn wsX12_enemies (wsV RX12 296 RX12 yX12_handAt wsX12_handAt) := goodIn_app (goodIn_of _ (by decide +kernel)) ggX12_enemies_X12_handAt
theorem dX12_enemies_0 : decode cX12_enemies 0 = .ok (.aload_n 0, 1) := by decide +kernel
theorem dX12_enemies_1 : decode cX12_enemies 1 = .ok (.iload_n 1, 1) := by decide +kernel
theorem dX12_enemies_2 : decode cX12_enemies 2 = .ok (.invokevirtual 296, 3) := by decide +kernel
theorem dX12_enemies_5 : decode cX12_enemies 5 = .ok (.astore_n 3, 1) := by decide +kernel
theorem dX12_enemies_6 : decode cX12_enemies 6 = .ok (.aload_n 0, 1) := by decide +kernel
theorem dX12_enemies_7 : decode cX12_enemies 7 = .ok (.iload_n 2, 1) := by decide +kernel
theorem dX12_enemies_8 : decode cX12_enemies 8 = .ok (.invokevirtual 296, 3) := by decide +kernel
theorem dX12_enemies_11 : decode cX12_enemies 11 = .ok (.astore 4, 2) := by decide +kernel
theorem dX12_enemies_13 : decode cX12_enemies 13 = .ok (.aload_n 3, 1) := by decide +kernel
theorem dX12_enemies_14 : decode cX12_enemies 14 = .ok (.ifnull 24, 3) := by decide +kernel
theorem dX12_enemies_17 : decode cX12_enemies 17 = .ok (.aload 4, 2) := by decide +kernel
theorem dX12_enemies_19 : decode cX12_enemies 19 = .ok (.ifnull 19, 3) := by decide +kernel
theorem dX12_enemies_22 : decode cX12_enemies 22 = .ok (.iload_n 1, 1) := by decide +kernel
theorem dX12_enemies_23 : decode cX12_enemies 23 = .ok (.iload_n 2, 1) := by decide +kernel
theorem dX12_enemies_24 : decode cX12_enemies 24 = .ok (.if_icmp .eq 14, 3) := by decide +kernel
theorem dX12_enemies_27 : decode cX12_enemies 27 = .ok (.aload_n 3, 1) := by decide +kernel
theorem dX12_enemies_28 : decode cX12_enemies 28 = .ok (.getfield 303, 3) := by decide +kernel
theorem dX12_enemies_31 : decode cX12_enemies 31 = .ok (.iload_n 2, 1) := by decide +kernel
theorem dX12_enemies_32 : decode cX12_enemies 32 = .ok (.ishr, 1) := by decide +kernel
theorem dX12_enemies_33 : decode cX12_enemies 33 = .ok (.iconst 1, 1) := by decide +kernel
theorem dX12_enemies_34 : decode cX12_enemies 34 = .ok (.iand, 1) := by decide +kernel
theorem dX12_enemies_35 : decode cX12_enemies 35 = .ok (.ifCond .eq 5, 3) := by decide +kernel
theorem dX12_enemies_38 : decode cX12_enemies 38 = .ok (.iconst 0, 1) := by decide +kernel
theorem dX12_enemies_39 : decode cX12_enemies 39 = .ok (.ireturn, 1) := by decide +kernel
theorem dX12_enemies_40 : decode cX12_enemies 40 = .ok (.aload_n 3, 1) := by decide +kernel
theorem dX12_enemies_41 : decode cX12_enemies 41 = .ok (.dup, 1) := by decide +kernel
theorem dX12_enemies_42 : decode cX12_enemies 42 = .ok (.getfield 303, 3) := by decide +kernel
theorem dX12_enemies_45 : decode cX12_enemies 45 = .ok (.iconst 1, 1) := by decide +kernel
theorem dX12_enemies_46 : decode cX12_enemies 46 = .ok (.iload_n 2, 1) := by decide +kernel
theorem dX12_enemies_47 : decode cX12_enemies 47 = .ok (.ishl, 1) := by decide +kernel
theorem dX12_enemies_48 : decode cX12_enemies 48 = .ok (.ior, 1) := by decide +kernel
theorem dX12_enemies_49 : decode cX12_enemies 49 = .ok (.putfield 303, 3) := by decide +kernel
theorem dX12_enemies_52 : decode cX12_enemies 52 = .ok (.aload 4, 2) := by decide +kernel
theorem dX12_enemies_54 : decode cX12_enemies 54 = .ok (.dup, 1) := by decide +kernel
theorem dX12_enemies_55 : decode cX12_enemies 55 = .ok (.getfield 303, 3) := by decide +kernel
theorem dX12_enemies_58 : decode cX12_enemies 58 = .ok (.iconst 1, 1) := by decide +kernel
theorem dX12_enemies_59 : decode cX12_enemies 59 = .ok (.iload_n 1, 1) := by decide +kernel
theorem dX12_enemies_60 : decode cX12_enemies 60 = .ok (.ishl, 1) := by decide +kernel
theorem dX12_enemies_61 : decode cX12_enemies 61 = .ok (.ior, 1) := by decide +kernel
theorem dX12_enemies_62 : decode cX12_enemies 62 = .ok (.putfield 303, 3) := by decide +kernel
theorem dX12_enemies_65 : decode cX12_enemies 65 = .ok (.iconst 1, 1) := by decide +kernel
theorem dX12_enemies_66 : decode cX12_enemies 66 = .ok (.ireturn, 1) := by decide +kernel
set_option maxRecDepth 20000 in
theorem ggX12_give_X12_entryOfKind : GoodIn wsX12_give wsX12_entryOfKind := goodIn_r _ [6, 7, 8, 9, 10, 5, 11, 12, 13, 149, 150, 151, 152, 153, 154, 155, 156, 157, 158, 159, 160, 161, 162, 163, 164, 165, 166, 167, 168, 169, 170, 171, 172, 173, 174, 175, 176, 177, 178, 179, 180, 181, 182, 183, 184, 185, 186] (by decide +kernel) (by decide +kernel)
set_option maxRecDepth 20000 in
theorem gX12_give_X12_entryOfKind : GoodIn wsX12_give (wsV RX12 243 RX12 yX12_entryOfKind wsX12_entryOfKind) := goodIn_app (goodIn_of _ (by decide +kernel)) ggX12_give_X12_entryOfKind
set_option maxRecDepth 20000 in
theorem ggX12_give_X0_isDone : GoodIn wsX12_give wsX0_isDone := goodIn_r _ [18, 19, 20, 149, 150, 151, 152, 153, 154, 155, 156, 157, 158, 159, 160, 161, 162, 163, 164, 165, 166] (by decide +kernel) (by decide +kernel)
set_option maxRecDepth 20000 in
theorem gX12_give_X0_isDone : GoodIn wsX12_give (wsV RX12 306 RX0 yX0_isDone wsX0_isDone) := goodIn_app (goodIn_of _ (by decide +kernel)) ggX12_give_X0_isDone
set_option maxRecDepth 20000 in
theorem ggX12_give_X12_mayTake : GoodIn wsX12_give wsX12_mayTake := goodIn_r _ [24, 25, 26, 27, 28, 29, 30, 31, 32, 5, 33, 34, 35, 36, 37, 38, 39, 40, 41, 42, 43, 44, 45, 46, 47, 48, 49, 50, 51, 52, 53, 54, 55, 56, 57, 58, 59, 60, 61, 62, 63, 64, 65, 66, 67, 68, 69, 70, 71, 72, 73, 74, 75, 76, 77, 78, 79, 80, 81, 82, 83, 84, 85, 86, 87, 88, 89, 90, 91, 92, 12, 7, 93, 8, 9, 10, 11, 13, 94, 95, 96, 97, 98, 99, 100, 17, 101, 102, 103, 19, 20, 104, 105, 106, 107, 108, 109, 110, 111, 112, 113, 114, 115, 116, 117, 118, 119, 120, 121, 122, 123, 124, 125, 126, 127, 128, 129, 130, 131, 132, 133, 134, 135, 136, 137, 138, 139, 140, 141, 142, 143, 144, 145, 146, 147, 148, 149, 150, 151, 152, 153, 154, 155, 156, 157, 158, 159, 160, 161, 162, 163, 164, 165, 166, 187, 188, 189, 190, 191, 192, 167, 168, 169, 170, 171, 172, 173, 174, 175, 176, 177, 178, 179, 180, 181, 182, 183, 184, 185, 186, 193, 194, 195, 196, 197, 198, 199, 200, 201, 202, 203, 204] (by decide +kernel) (by decide +kernel)
set_option maxRecDepth 20000 in
theorem gX12_give_X12_mayTake : GoodIn wsX12_give (wsV RX12 309 RX12 yX12_mayTake wsX12_mayTake) := goodIn_app (goodIn_of _ (by decide +kernel)) ggX12_give_X12_mayTake
theorem dX12_give_0 : decode cX12_give 0 = .ok (.aload_n 0, 1) := by decide +kernel
theorem dX12_give_1 : decode cX12_give 1 = .ok (.iload_n 1, 1) := by decide +kernel
theorem dX12_give_2 : decode cX12_give 2 = .ok (.iconst 0, 1) := by decide +kernel
theorem dX12_give_3 : decode cX12_give 3 = .ok (.invokevirtual 243, 3) := by decide +kernel
theorem dX12_give_6 : decode cX12_give 6 = .ok (.astore_n 3, 1) := by decide +kernel
theorem dX12_give_7 : decode cX12_give 7 = .ok (.aload_n 3, 1) := by decide +kernel
theorem dX12_give_8 : decode cX12_give 8 = .ok (.ifnull 19, 3) := by decide +kernel
theorem dX12_give_11 : decode cX12_give 11 = .ok (.aload_n 3, 1) := by decide +kernel
theorem dX12_give_12 : decode cX12_give 12 = .ok (.invokevirtual 306, 3) := by decide +kernel
theorem dX12_give_15 : decode cX12_give 15 = .ok (.ifCond .ne 12, 3) := by decide +kernel
theorem dX12_give_18 : decode cX12_give 18 = .ok (.aload_n 0, 1) := by decide +kernel
theorem dX12_give_19 : decode cX12_give 19 = .ok (.aload_n 3, 1) := by decide +kernel
theorem dX12_give_20 : decode cX12_give 20 = .ok (.iload_n 2, 1) := by decide +kernel
theorem dX12_give_21 : decode cX12_give 21 = .ok (.invokevirtual 309, 3) := by decide +kernel
theorem dX12_give_24 : decode cX12_give 24 = .ok (.ifCond .ne 5, 3) := by decide +kernel
theorem dX12_give_27 : decode cX12_give 27 = .ok (.iconst 0, 1) := by decide +kernel
theorem dX12_give_28 : decode cX12_give 28 = .ok (.ireturn, 1) := by decide +kernel
theorem dX12_give_29 : decode cX12_give 29 = .ok (.aload_n 3, 1) := by decide +kernel
theorem dX12_give_30 : decode cX12_give 30 = .ok (.iload_n 2, 1) := by decide +kernel
theorem dX12_give_31 : decode cX12_give 31 = .ok (.putfield 313, 3) := by decide +kernel
theorem dX12_give_34 : decode cX12_give 34 = .ok (.iconst 1, 1) := by decide +kernel
theorem dX12_give_35 : decode cX12_give 35 = .ok (.ireturn, 1) := by decide +kernel
set_option maxRecDepth 20000 in
theorem ggX12_mayTake_X12_livingHandAt : GoodIn wsX12_mayTake wsX12_livingHandAt := goodIn_r _ [10, 11, 12, 13, 14, 9, 15, 16, 17, 154, 155, 156, 157, 158, 159, 160, 161, 162, 163, 164, 165, 166, 167, 168, 169, 170, 171, 172, 173, 174, 175, 176, 177, 178, 179] (by decide +kernel) (by decide +kernel)
set_option maxRecDepth 20000 in
theorem gX12_mayTake_X12_livingHandAt : GoodIn wsX12_mayTake (wsV RX12 316 RX12 yX12_livingHandAt wsX12_livingHandAt) := goodIn_app (goodIn_of _ (by decide +kernel)) ggX12_mayTake_X12_livingHandAt
set_option maxRecDepth 20000 in
theorem ggX12_mayTake_X12_isStruck : GoodIn wsX12_mayTake wsX12_isStruck := goodIn_r _ [21, 22, 136, 137, 138, 139, 140, 141, 142, 143, 144, 145, 146, 147, 148, 149, 150, 151, 152, 153] (by decide +kernel) (by decide +kernel)
set_option maxRecDepth 20000 in
theorem gX12_mayTake_X12_isStruck : GoodIn wsX12_mayTake (wsV RX12 319 RX12 yX12_isStruck wsX12_isStruck) := goodIn_app (goodIn_of _ (by decide +kernel)) ggX12_mayTake_X12_isStruck
set_option maxRecDepth 20000 in
theorem ggX12_mayTake_X12_valueFor : GoodIn wsX12_mayTake wsX12_valueFor := goodIn_r _ [26, 27, 28, 29, 30, 31, 9, 32, 1, 33, 34, 35, 36, 37, 22, 38, 39, 40, 41, 42, 43, 44, 45, 46, 47, 48, 49, 50, 3, 51, 52, 12, 13, 14, 15, 16, 17, 53, 54, 55, 56, 57, 58, 59, 60, 61, 62, 63, 64, 65, 66, 67, 68, 69, 70, 71, 72, 73, 74, 75, 76, 77, 18, 19, 20, 21, 78, 79, 80, 81, 82, 83, 84, 85, 86, 87, 88, 89, 90, 91, 92, 93, 94, 95, 96, 97, 98, 99, 100, 101, 102, 103, 104, 105, 106, 107, 108, 109, 110, 111, 112, 113, 114, 115, 116, 117, 118, 119, 120, 121, 122, 123, 124, 125, 126, 127, 128, 129, 130, 131, 132, 133, 134, 135, 160, 161, 162, 163, 164, 165, 166, 167, 168, 169, 170, 171, 172, 173, 174, 175, 176, 177, 178, 179, 136, 137, 138, 139, 140, 141, 142, 143, 144, 145, 146, 147, 148, 149, 150, 151, 152, 153, 154, 155, 156, 157, 158, 159, 180, 181, 182, 183, 184, 185, 186, 187, 188, 189, 190, 191] (by decide +kernel) (by decide +kernel)
set_option maxRecDepth 20000 in
theorem gX12_mayTake_X12_valueFor : GoodIn wsX12_mayTake (wsV RX12 328 RX12 yX12_valueFor wsX12_valueFor) := goodIn_app (goodIn_of _ (by decide +kernel)) ggX12_mayTake_X12_valueFor
theorem dX12_mayTake_0 : decode cX12_mayTake 0 = .ok (.aload_n 0, 1) := by decide +kernel
theorem dX12_mayTake_1 : decode cX12_mayTake 1 = .ok (.iload_n 2, 1) := by decide +kernel
theorem dX12_mayTake_2 : decode cX12_mayTake 2 = .ok (.invokevirtual 316, 3) := by decide +kernel
theorem dX12_mayTake_5 : decode cX12_mayTake 5 = .ok (.astore_n 3, 1) := by decide +kernel
theorem dX12_mayTake_6 : decode cX12_mayTake 6 = .ok (.aload_n 3, 1) := by decide +kernel
theorem dX12_mayTake_7 : decode cX12_mayTake 7 = .ok (.ifnull 19, 3) := by decide +kernel
theorem dX12_mayTake_10 : decode cX12_mayTake 10 = .ok (.aload_n 0, 1) := by decide +kernel
theorem dX12_mayTake_11 : decode cX12_mayTake 11 = .ok (.aload_n 1, 1) := by decide +kernel
theorem dX12_mayTake_12 : decode cX12_mayTake 12 = .ok (.invokevirtual 319, 3) := by decide +kernel
theorem dX12_mayTake_15 : decode cX12_mayTake 15 = .ok (.ifCond .ne 11, 3) := by decide +kernel
theorem dX12_mayTake_18 : decode cX12_mayTake 18 = .ok (.aload_n 1, 1) := by decide +kernel
theorem dX12_mayTake_19 : decode cX12_mayTake 19 = .ok (.getfield 247, 3) := by decide +kernel
theorem dX12_mayTake_22 : decode cX12_mayTake 22 = .ok (.iconst (-1), 1) := by decide +kernel
theorem dX12_mayTake_23 : decode cX12_mayTake 23 = .ok (.if_icmp .eq 5, 3) := by decide +kernel
theorem dX12_mayTake_26 : decode cX12_mayTake 26 = .ok (.iconst 0, 1) := by decide +kernel
theorem dX12_mayTake_27 : decode cX12_mayTake 27 = .ok (.ireturn, 1) := by decide +kernel
theorem dX12_mayTake_28 : decode cX12_mayTake 28 = .ok (.aload_n 3, 1) := by decide +kernel
theorem dX12_mayTake_29 : decode cX12_mayTake 29 = .ok (.getfield 322, 3) := by decide +kernel
theorem dX12_mayTake_32 : decode cX12_mayTake 32 = .ok (.aload_n 1, 1) := by decide +kernel
theorem dX12_mayTake_33 : decode cX12_mayTake 33 = .ok (.getfield 180, 3) := by decide +kernel
theorem dX12_mayTake_36 : decode cX12_mayTake 36 = .ok (.ishr, 1) := by decide +kernel
theorem dX12_mayTake_37 : decode cX12_mayTake 37 = .ok (.iconst 1, 1) := by decide +kernel
theorem dX12_mayTake_38 : decode cX12_mayTake 38 = .ok (.iand, 1) := by decide +kernel
theorem dX12_mayTake_39 : decode cX12_mayTake 39 = .ok (.ifCond .eq 15, 3) := by decide +kernel
theorem dX12_mayTake_42 : decode cX12_mayTake 42 = .ok (.aload_n 3, 1) := by decide +kernel
theorem dX12_mayTake_43 : decode cX12_mayTake 43 = .ok (.getfield 303, 3) := by decide +kernel
theorem dX12_mayTake_46 : decode cX12_mayTake 46 = .ok (.aload_n 1, 1) := by decide +kernel
theorem dX12_mayTake_47 : decode cX12_mayTake 47 = .ok (.getfield 325, 3) := by decide +kernel
theorem dX12_mayTake_50 : decode cX12_mayTake 50 = .ok (.iand, 1) := by decide +kernel
theorem dX12_mayTake_51 : decode cX12_mayTake 51 = .ok (.ifCond .eq 5, 3) := by decide +kernel
theorem dX12_mayTake_54 : decode cX12_mayTake 54 = .ok (.iconst 0, 1) := by decide +kernel
theorem dX12_mayTake_55 : decode cX12_mayTake 55 = .ok (.ireturn, 1) := by decide +kernel
theorem dX12_mayTake_56 : decode cX12_mayTake 56 = .ok (.aload_n 0, 1) := by decide +kernel
theorem dX12_mayTake_57 : decode cX12_mayTake 57 = .ok (.iconst 2, 1) := by decide +kernel
theorem dX12_mayTake_58 : decode cX12_mayTake 58 = .ok (.aload_n 1, 1) := by decide +kernel
theorem dX12_mayTake_59 : decode cX12_mayTake 59 = .ok (.iload_n 2, 1) := by decide +kernel
theorem dX12_mayTake_60 : decode cX12_mayTake 60 = .ok (.invokevirtual 328, 3) := by decide +kernel
theorem dX12_mayTake_63 : decode cX12_mayTake 63 = .ok (.ifCond .eq 7, 3) := by decide +kernel
theorem dX12_mayTake_66 : decode cX12_mayTake 66 = .ok (.iconst 1, 1) := by decide +kernel
theorem dX12_mayTake_67 : decode cX12_mayTake 67 = .ok (.goto 4, 3) := by decide +kernel
theorem dX12_mayTake_70 : decode cX12_mayTake 70 = .ok (.iconst 0, 1) := by decide +kernel
theorem dX12_mayTake_71 : decode cX12_mayTake 71 = .ok (.ireturn, 1) := by decide +kernel
set_option maxRecDepth 20000 in
theorem ggX12_valueFor_X12_standing : GoodIn wsX12_valueFor wsX12_standing := goodIn_r _ [7, 8, 9, 10, 11, 12, 6, 13, 14, 15, 16, 17, 18, 19, 144, 145, 146, 147, 148, 149, 150, 151, 152, 153, 154, 155, 156, 157, 158, 159, 160, 161, 124, 125, 126, 127, 128, 129, 130, 131, 132, 133, 134, 135, 136, 137, 138, 139, 140, 141, 142, 143] (by decide +kernel) (by decide +kernel)
set_option maxRecDepth 20000 in
theorem gX12_valueFor_X12_standing : GoodIn wsX12_valueFor (wsV RX12 260 RX12 yX12_standing wsX12_standing) := goodIn_app (goodIn_of _ (by decide +kernel)) ggX12_valueFor_X12_standing
set_option maxRecDepth 20000 in
theorem ggX12_valueFor_X12_ask : GoodIn wsX12_valueFor wsX12_ask := goodIn_r _ [23, 1, 24, 25, 26, 27, 28, 29, 2, 30, 31, 32, 33, 6, 34, 35, 36, 37, 38, 39, 40, 41, 42, 43, 44, 45, 46, 47, 48, 49, 50, 51, 52, 53, 54, 55, 56, 57, 58, 59, 60, 61, 62, 63, 64, 65, 14, 66, 67, 68, 69, 70, 71, 72, 73, 74, 75, 76, 77, 78, 79, 124, 125, 126, 127, 128, 129, 130, 131, 132, 133, 134, 135, 136, 137, 138, 139, 140, 141, 142, 143, 144, 145, 146, 147, 148, 149, 150, 151, 152, 153, 154, 155, 156, 157, 158, 159, 160, 161, 162, 163, 164, 165, 166, 167, 168, 169, 170, 171, 172, 173, 174, 175] (by decide +kernel) (by decide +kernel)
set_option maxRecDepth 20000 in
theorem gX12_valueFor_X12_ask : GoodIn wsX12_valueFor (wsV RX12 332 RX12 yX12_ask wsX12_ask) := goodIn_app (goodIn_of _ (by decide +kernel)) ggX12_valueFor_X12_ask
set_option maxRecDepth 20000 in
theorem ggX12_valueFor_X8_valueOf : GoodIn wsX12_valueFor wsX8_valueOf := goodIn_r _ [83, 84, 85, 86, 87, 88, 40, 89, 90, 91, 92, 93, 94, 95, 96, 97, 98, 99, 100, 101, 102, 103, 104, 105, 106, 107, 108, 109, 110, 111, 42, 112, 113, 114, 115, 116, 117, 118, 119, 120, 121, 122, 123, 168, 169, 170, 171, 172, 173, 174, 175, 176, 177, 178, 179] (by decide +kernel) (by decide +kernel)
set_option maxRecDepth 20000 in
theorem gX12_valueFor_X8_valueOf : GoodIn wsX12_valueFor (wsV RX12 336 RX8 yX8_valueOf wsX8_valueOf) := goodIn_app (goodIn_of _ (by decide +kernel)) ggX12_valueFor_X8_valueOf
theorem dX12_valueFor_0 : decode cX12_valueFor 0 = .ok (.aload_n 0, 1) := by decide +kernel
theorem dX12_valueFor_1 : decode cX12_valueFor 1 = .ok (.aload_n 2, 1) := by decide +kernel
theorem dX12_valueFor_2 : decode cX12_valueFor 2 = .ok (.invokevirtual 260, 3) := by decide +kernel
theorem dX12_valueFor_5 : decode cX12_valueFor 5 = .ok (.istore 4, 2) := by decide +kernel
theorem dX12_valueFor_7 : decode cX12_valueFor 7 = .ok (.aload_n 0, 1) := by decide +kernel
theorem dX12_valueFor_8 : decode cX12_valueFor 8 = .ok (.aload_n 2, 1) := by decide +kernel
theorem dX12_valueFor_9 : decode cX12_valueFor 9 = .ok (.iload 4, 2) := by decide +kernel
theorem dX12_valueFor_11 : decode cX12_valueFor 11 = .ok (.iload_n 3, 1) := by decide +kernel
theorem dX12_valueFor_12 : decode cX12_valueFor 12 = .ok (.invokevirtual 332, 3) := by decide +kernel
theorem dX12_valueFor_15 : decode cX12_valueFor 15 = .ok (.aload_n 0, 1) := by decide +kernel
theorem dX12_valueFor_16 : decode cX12_valueFor 16 = .ok (.getfield 19, 3) := by decide +kernel
theorem dX12_valueFor_19 : decode cX12_valueFor 19 = .ok (.iload_n 1, 1) := by decide +kernel
theorem dX12_valueFor_20 : decode cX12_valueFor 20 = .ok (.iload 4, 2) := by decide +kernel
theorem dX12_valueFor_22 : decode cX12_valueFor 22 = .ok (.bipush 6, 2) := by decide +kernel
theorem dX12_valueFor_24 : decode cX12_valueFor 24 = .ok (.if_icmp .ne 7, 3) := by decide +kernel
theorem dX12_valueFor_27 : decode cX12_valueFor 27 = .ok (.iconst (-1), 1) := by decide +kernel
theorem dX12_valueFor_28 : decode cX12_valueFor 28 = .ok (.goto 5, 3) := by decide +kernel
theorem dX12_valueFor_31 : decode cX12_valueFor 31 = .ok (.iload 4, 2) := by decide +kernel
theorem dX12_valueFor_33 : decode cX12_valueFor 33 = .ok (.aload_n 0, 1) := by decide +kernel
theorem dX12_valueFor_34 : decode cX12_valueFor 34 = .ok (.getfield 133, 3) := by decide +kernel
theorem dX12_valueFor_37 : decode cX12_valueFor 37 = .ok (.invokevirtual 336, 3) := by decide +kernel
theorem dX12_valueFor_40 : decode cX12_valueFor 40 = .ok (.ireturn, 1) := by decide +kernel
set_option maxRecDepth 20000 in
theorem ggX12_ask_X12_handAt : GoodIn wsX12_ask wsX12_handAt := goodIn_r _ [14, 15, 16, 61, 62, 63, 64, 65, 66, 67, 68, 69, 70, 71, 72, 73, 74, 75, 76, 77, 78, 79, 80] (by decide +kernel) (by decide +kernel)
set_option maxRecDepth 20000 in
theorem gX12_ask_X12_handAt : GoodIn wsX12_ask (wsV RX12 296 RX12 yX12_handAt wsX12_handAt) := goodIn_app (goodIn_of _ (by decide +kernel)) ggX12_ask_X12_handAt
set_option maxRecDepth 20000 in
theorem ggX12_ask_X8_name : GoodIn wsX12_ask wsX8_name := goodIn_r _ [21, 22, 105, 106, 107, 108, 109, 110, 111, 112] (by decide +kernel) (by decide +kernel)
set_option maxRecDepth 20000 in
theorem gX12_ask_X8_name : GoodIn wsX12_ask (wsV RX12 339 RX8 yX8_name wsX8_name) := goodIn_app (goodIn_of _ (by decide +kernel)) ggX12_ask_X8_name
set_option maxRecDepth 20000 in
theorem ggX12_ask_J13_bitCount_95d88 : GoodIn wsX12_ask wsJ13_bitCount_95d88 := goodIn_r _ [26, 27, 28, 29] (by decide +kernel) (by decide +kernel)
set_option maxRecDepth 20000 in
theorem gX12_ask_J13_bitCount_95d88 : GoodIn wsX12_ask (va_wsS RX12 349 yJ13_bitCount_95d88 wsJ13_bitCount_95d88) := goodIn_app (goodIn_of _ (by decide +kernel)) ggX12_ask_J13_bitCount_95d88
set_option maxRecDepth 20000 in
theorem ggX12_ask_X12_pointersTo : GoodIn wsX12_ask wsX12_pointersTo := goodIn_r _ [33, 34, 35, 36, 37, 38, 39, 13, 40, 41, 42, 43, 44, 45, 46, 61, 62, 63, 64, 65, 66, 67, 68, 69, 70, 71, 72, 73, 74, 75, 76, 77, 78, 79, 80, 81, 82, 83, 84, 85, 86, 87, 88, 89, 90, 91, 92, 93, 94, 95, 96, 97, 98] (by decide +kernel) (by decide +kernel)
set_option maxRecDepth 20000 in
theorem gX12_ask_X12_pointersTo : GoodIn wsX12_ask (wsV RX12 355 RX12 yX12_pointersTo wsX12_pointersTo) := goodIn_app (goodIn_of _ (by decide +kernel)) ggX12_ask_X12_pointersTo
set_option maxRecDepth 20000 in
theorem ggX12_ask_X12_unfinished : GoodIn wsX12_ask wsX12_unfinished := goodIn_r _ [50, 34, 37, 38, 39, 13, 40, 41, 51, 52, 53, 54, 55, 56, 57, 58, 59, 60, 61, 62, 63, 64, 65, 66, 67, 68, 69, 70, 71, 72, 73, 74, 75, 76, 77, 78, 79, 80, 81, 82, 83, 84, 85, 86, 87, 88, 89, 90, 91, 92, 93, 94, 95, 96, 97, 98] (by decide +kernel) (by decide +kernel)
set_option maxRecDepth 20000 in
theorem gX12_ask_X12_unfinished : GoodIn wsX12_ask (wsV RX12 364 RX12 yX12_unfinished wsX12_unfinished) := goodIn_app (goodIn_of _ (by decide +kernel)) ggX12_ask_X12_unfinished
theorem dX12_ask_0 : decode cX12_ask 0 = .ok (.aload_n 0, 1) := by decide +kernel
theorem dX12_ask_1 : decode cX12_ask 1 = .ok (.iload_n 3, 1) := by decide +kernel
theorem dX12_ask_2 : decode cX12_ask 2 = .ok (.invokevirtual 296, 3) := by decide +kernel
theorem dX12_ask_5 : decode cX12_ask 5 = .ok (.astore 4, 2) := by decide +kernel
theorem dX12_ask_7 : decode cX12_ask 7 = .ok (.aload_n 0, 1) := by decide +kernel
theorem dX12_ask_8 : decode cX12_ask 8 = .ok (.getfield 19, 3) := by decide +kernel
theorem dX12_ask_11 : decode cX12_ask 11 = .ok (.iconst 0, 1) := by decide +kernel
theorem dX12_ask_12 : decode cX12_ask 12 = .ok (.aload_n 1, 1) := by decide +kernel
theorem dX12_ask_13 : decode cX12_ask 13 = .ok (.getfield 183, 3) := by decide +kernel
theorem dX12_ask_16 : decode cX12_ask 16 = .ok (.invokevirtual 339, 3) := by decide +kernel
theorem dX12_ask_19 : decode cX12_ask 19 = .ok (.aload_n 0, 1) := by decide +kernel
theorem dX12_ask_20 : decode cX12_ask 20 = .ok (.getfield 19, 3) := by decide +kernel
theorem dX12_ask_23 : decode cX12_ask 23 = .ok (.iconst 1, 1) := by decide +kernel
theorem dX12_ask_24 : decode cX12_ask 24 = .ok (.aload_n 1, 1) := by decide +kernel
theorem dX12_ask_25 : decode cX12_ask 25 = .ok (.getfield 342, 3) := by decide +kernel
theorem dX12_ask_28 : decode cX12_ask 28 = .ok (.invokevirtual 339, 3) := by decide +kernel
theorem dX12_ask_31 : decode cX12_ask 31 = .ok (.aload_n 0, 1) := by decide +kernel
theorem dX12_ask_32 : decode cX12_ask 32 = .ok (.getfield 19, 3) := by decide +kernel
theorem dX12_ask_35 : decode cX12_ask 35 = .ok (.iconst 2, 1) := by decide +kernel
theorem dX12_ask_36 : decode cX12_ask 36 = .ok (.aload_n 1, 1) := by decide +kernel
theorem dX12_ask_37 : decode cX12_ask 37 = .ok (.getfield 345, 3) := by decide +kernel
theorem dX12_ask_40 : decode cX12_ask 40 = .ok (.invokestatic 349, 3) := by decide +kernel
theorem dX12_ask_43 : decode cX12_ask 43 = .ok (.invokevirtual 339, 3) := by decide +kernel
theorem dX12_ask_46 : decode cX12_ask 46 = .ok (.aload_n 0, 1) := by decide +kernel
theorem dX12_ask_47 : decode cX12_ask 47 = .ok (.getfield 19, 3) := by decide +kernel
theorem dX12_ask_50 : decode cX12_ask 50 = .ok (.iconst 3, 1) := by decide +kernel
theorem dX12_ask_51 : decode cX12_ask 51 = .ok (.aload_n 0, 1) := by decide +kernel
theorem dX12_ask_52 : decode cX12_ask 52 = .ok (.aload_n 1, 1) := by decide +kernel
theorem dX12_ask_53 : decode cX12_ask 53 = .ok (.getfield 186, 3) := by decide +kernel
theorem dX12_ask_56 : decode cX12_ask 56 = .ok (.invokevirtual 355, 3) := by decide +kernel
theorem dX12_ask_59 : decode cX12_ask 59 = .ok (.invokevirtual 339, 3) := by decide +kernel
theorem dX12_ask_62 : decode cX12_ask 62 = .ok (.aload_n 0, 1) := by decide +kernel
theorem dX12_ask_63 : decode cX12_ask 63 = .ok (.getfield 19, 3) := by decide +kernel
theorem dX12_ask_66 : decode cX12_ask 66 = .ok (.iconst 4, 1) := by decide +kernel
theorem dX12_ask_67 : decode cX12_ask 67 = .ok (.aload_n 1, 1) := by decide +kernel
theorem dX12_ask_68 : decode cX12_ask 68 = .ok (.getfield 180, 3) := by decide +kernel
theorem dX12_ask_71 : decode cX12_ask 71 = .ok (.invokevirtual 339, 3) := by decide +kernel
theorem dX12_ask_74 : decode cX12_ask 74 = .ok (.aload_n 0, 1) := by decide +kernel
theorem dX12_ask_75 : decode cX12_ask 75 = .ok (.getfield 19, 3) := by decide +kernel
theorem dX12_ask_78 : decode cX12_ask 78 = .ok (.iconst 5, 1) := by decide +kernel
theorem dX12_ask_79 : decode cX12_ask 79 = .ok (.aload 4, 2) := by decide +kernel
theorem dX12_ask_81 : decode cX12_ask 81 = .ok (.ifnonnull 7, 3) := by decide +kernel
theorem dX12_ask_84 : decode cX12_ask 84 = .ok (.iconst 0, 1) := by decide +kernel
theorem dX12_ask_85 : decode cX12_ask 85 = .ok (.goto 8, 3) := by decide +kernel
theorem dX12_ask_88 : decode cX12_ask 88 = .ok (.aload 4, 2) := by decide +kernel
theorem dX12_ask_90 : decode cX12_ask 90 = .ok (.getfield 358, 3) := by decide +kernel
theorem dX12_ask_93 : decode cX12_ask 93 = .ok (.invokevirtual 339, 3) := by decide +kernel
theorem dX12_ask_96 : decode cX12_ask 96 = .ok (.aload_n 0, 1) := by decide +kernel
theorem dX12_ask_97 : decode cX12_ask 97 = .ok (.getfield 19, 3) := by decide +kernel
theorem dX12_ask_100 : decode cX12_ask 100 = .ok (.bipush 6, 2) := by decide +kernel
theorem dX12_ask_102 : decode cX12_ask 102 = .ok (.aload 4, 2) := by decide +kernel
theorem dX12_ask_104 : decode cX12_ask 104 = .ok (.ifnonnull 7, 3) := by decide +kernel
theorem dX12_ask_107 : decode cX12_ask 107 = .ok (.iconst 0, 1) := by decide +kernel
theorem dX12_ask_108 : decode cX12_ask 108 = .ok (.goto 17, 3) := by decide +kernel
theorem dX12_ask_111 : decode cX12_ask 111 = .ok (.aload_n 0, 1) := by decide +kernel
theorem dX12_ask_112 : decode cX12_ask 112 = .ok (.getfield 133, 3) := by decide +kernel
theorem dX12_ask_115 : decode cX12_ask 115 = .ok (.aload 4, 2) := by decide +kernel
theorem dX12_ask_117 : decode cX12_ask 117 = .ok (.getfield 361, 3) := by decide +kernel
theorem dX12_ask_120 : decode cX12_ask 120 = .ok (.isub, 1) := by decide +kernel
theorem dX12_ask_121 : decode cX12_ask 121 = .ok (.sipush 365, 3) := by decide +kernel
theorem dX12_ask_124 : decode cX12_ask 124 = .ok (.idiv, 1) := by decide +kernel
theorem dX12_ask_125 : decode cX12_ask 125 = .ok (.invokevirtual 339, 3) := by decide +kernel
theorem dX12_ask_128 : decode cX12_ask 128 = .ok (.aload_n 0, 1) := by decide +kernel
theorem dX12_ask_129 : decode cX12_ask 129 = .ok (.getfield 19, 3) := by decide +kernel
theorem dX12_ask_132 : decode cX12_ask 132 = .ok (.bipush 7, 2) := by decide +kernel
theorem dX12_ask_134 : decode cX12_ask 134 = .ok (.iload_n 2, 1) := by decide +kernel
theorem dX12_ask_135 : decode cX12_ask 135 = .ok (.invokevirtual 339, 3) := by decide +kernel
theorem dX12_ask_138 : decode cX12_ask 138 = .ok (.aload_n 0, 1) := by decide +kernel
theorem dX12_ask_139 : decode cX12_ask 139 = .ok (.getfield 19, 3) := by decide +kernel
theorem dX12_ask_142 : decode cX12_ask 142 = .ok (.bipush 8, 2) := by decide +kernel
theorem dX12_ask_144 : decode cX12_ask 144 = .ok (.aload 4, 2) := by decide +kernel
theorem dX12_ask_146 : decode cX12_ask 146 = .ok (.ifnonnull 7, 3) := by decide +kernel
theorem dX12_ask_149 : decode cX12_ask 149 = .ok (.iconst 0, 1) := by decide +kernel
theorem dX12_ask_150 : decode cX12_ask 150 = .ok (.goto 8, 3) := by decide +kernel
theorem dX12_ask_153 : decode cX12_ask 153 = .ok (.aload_n 0, 1) := by decide +kernel
theorem dX12_ask_154 : decode cX12_ask 154 = .ok (.iload_n 3, 1) := by decide +kernel
theorem dX12_ask_155 : decode cX12_ask 155 = .ok (.invokevirtual 364, 3) := by decide +kernel
theorem dX12_ask_158 : decode cX12_ask 158 = .ok (.invokevirtual 339, 3) := by decide +kernel
theorem dX12_ask_161 : decode cX12_ask 161 = .ok (.return_, 1) := by decide +kernel
set_option maxRecDepth 20000 in
theorem ggX12_pointersTo_X12_entryAt : GoodIn wsX12_pointersTo wsX12_entryAt := goodIn_r _ [8, 1, 9, 15, 16, 17, 18, 19, 20, 21, 22, 23, 24, 25, 26, 27, 28, 29, 30, 31, 32, 33, 34] (by decide +kernel) (by decide +kernel)
set_option maxRecDepth 20000 in
theorem gX12_pointersTo_X12_entryAt : GoodIn wsX12_pointersTo (wsV RX12 189 RX12 yX12_entryAt wsX12_entryAt) := goodIn_app (goodIn_of _ (by decide +kernel)) ggX12_pointersTo_X12_entryAt
set_option maxRecDepth 20000 in
theorem ggX12_pointersTo_X12_isStruck : GoodIn wsX12_pointersTo wsX12_isStruck := goodIn_r _ [13, 14, 35, 36, 37, 38, 39, 40, 41, 42, 43, 44, 45, 46, 47, 48, 49, 50, 51, 52] (by decide +kernel) (by decide +kernel)
set_option maxRecDepth 20000 in
theorem gX12_pointersTo_X12_isStruck : GoodIn wsX12_pointersTo (wsV RX12 319 RX12 yX12_isStruck wsX12_isStruck) := goodIn_app (goodIn_of _ (by decide +kernel)) ggX12_pointersTo_X12_isStruck
theorem dX12_pointersTo_0 : decode cX12_pointersTo 0 = .ok (.iconst 0, 1) := by decide +kernel
theorem dX12_pointersTo_1 : decode cX12_pointersTo 1 = .ok (.istore_n 2, 1) := by decide +kernel
theorem dX12_pointersTo_2 : decode cX12_pointersTo 2 = .ok (.iconst 0, 1) := by decide +kernel
theorem dX12_pointersTo_3 : decode cX12_pointersTo 3 = .ok (.istore_n 3, 1) := by decide +kernel
theorem dX12_pointersTo_4 : decode cX12_pointersTo 4 = .ok (.iload_n 3, 1) := by decide +kernel
theorem dX12_pointersTo_5 : decode cX12_pointersTo 5 = .ok (.aload_n 0, 1) := by decide +kernel
theorem dX12_pointersTo_6 : decode cX12_pointersTo 6 = .ok (.getfield 203, 3) := by decide +kernel
theorem dX12_pointersTo_9 : decode cX12_pointersTo 9 = .ok (.if_icmp .ge 51, 3) := by decide +kernel
theorem dX12_pointersTo_12 : decode cX12_pointersTo 12 = .ok (.aload_n 0, 1) := by decide +kernel
theorem dX12_pointersTo_13 : decode cX12_pointersTo 13 = .ok (.iload_n 3, 1) := by decide +kernel
theorem dX12_pointersTo_14 : decode cX12_pointersTo 14 = .ok (.invokevirtual 189, 3) := by decide +kernel
theorem dX12_pointersTo_17 : decode cX12_pointersTo 17 = .ok (.astore 4, 2) := by decide +kernel
theorem dX12_pointersTo_19 : decode cX12_pointersTo 19 = .ok (.aload 4, 2) := by decide +kernel
theorem dX12_pointersTo_21 : decode cX12_pointersTo 21 = .ok (.ifnull 33, 3) := by decide +kernel
theorem dX12_pointersTo_24 : decode cX12_pointersTo 24 = .ok (.aload 4, 2) := by decide +kernel
theorem dX12_pointersTo_26 : decode cX12_pointersTo 26 = .ok (.getfield 240, 3) := by decide +kernel
theorem dX12_pointersTo_29 : decode cX12_pointersTo 29 = .ok (.iconst 1, 1) := by decide +kernel
theorem dX12_pointersTo_30 : decode cX12_pointersTo 30 = .ok (.if_icmp .ne 24, 3) := by decide +kernel
theorem dX12_pointersTo_33 : decode cX12_pointersTo 33 = .ok (.aload 4, 2) := by decide +kernel
theorem dX12_pointersTo_35 : decode cX12_pointersTo 35 = .ok (.getfield 193, 3) := by decide +kernel
theorem dX12_pointersTo_38 : decode cX12_pointersTo 38 = .ok (.iload_n 1, 1) := by decide +kernel
theorem dX12_pointersTo_39 : decode cX12_pointersTo 39 = .ok (.if_icmp .ne 15, 3) := by decide +kernel
theorem dX12_pointersTo_42 : decode cX12_pointersTo 42 = .ok (.aload_n 0, 1) := by decide +kernel
theorem dX12_pointersTo_43 : decode cX12_pointersTo 43 = .ok (.aload 4, 2) := by decide +kernel
theorem dX12_pointersTo_45 : decode cX12_pointersTo 45 = .ok (.invokevirtual 319, 3) := by decide +kernel
theorem dX12_pointersTo_48 : decode cX12_pointersTo 48 = .ok (.ifCond .ne 6, 3) := by decide +kernel
theorem dX12_pointersTo_51 : decode cX12_pointersTo 51 = .ok (.iinc 2 1, 3) := by decide +kernel
theorem dX12_pointersTo_54 : decode cX12_pointersTo 54 = .ok (.iinc 3 1, 3) := by decide +kernel
theorem dX12_pointersTo_57 : decode cX12_pointersTo 57 = .ok (.goto (-53), 3) := by decide +kernel
theorem dX12_pointersTo_60 : decode cX12_pointersTo 60 = .ok (.iload_n 2, 1) := by decide +kernel
theorem dX12_pointersTo_61 : decode cX12_pointersTo 61 = .ok (.ireturn, 1) := by decide +kernel
set_option maxRecDepth 20000 in
theorem ggX12_unfinished_X12_entryAt : GoodIn wsX12_unfinished wsX12_entryAt := goodIn_r _ [6, 1, 7, 18, 19, 20, 21, 22, 23, 24, 25, 26, 27, 28, 29, 30, 31, 32, 33, 34, 35, 36, 37] (by decide +kernel) (by decide +kernel)
set_option maxRecDepth 20000 in
theorem gX12_unfinished_X12_entryAt : GoodIn wsX12_unfinished (wsV RX12 189 RX12 yX12_entryAt wsX12_entryAt) := goodIn_app (goodIn_of _ (by decide +kernel)) ggX12_unfinished_X12_entryAt
set_option maxRecDepth 20000 in
theorem ggX12_unfinished_X0_isUnfinishedOf : GoodIn wsX12_unfinished wsX0_isUnfinishedOf := goodIn_r _ [12, 13, 14, 15, 16, 17, 38, 39, 40, 41, 42, 43, 44, 45, 46, 47, 48, 49, 50, 51, 52, 53, 54, 55] (by decide +kernel) (by decide +kernel)
set_option maxRecDepth 20000 in
theorem gX12_unfinished_X0_isUnfinishedOf : GoodIn wsX12_unfinished (wsV RX12 367 RX0 yX0_isUnfinishedOf wsX0_isUnfinishedOf) := goodIn_app (goodIn_of _ (by decide +kernel)) ggX12_unfinished_X0_isUnfinishedOf
theorem dX12_unfinished_0 : decode cX12_unfinished 0 = .ok (.iconst 0, 1) := by decide +kernel
theorem dX12_unfinished_1 : decode cX12_unfinished 1 = .ok (.istore_n 2, 1) := by decide +kernel
theorem dX12_unfinished_2 : decode cX12_unfinished 2 = .ok (.iconst 0, 1) := by decide +kernel
theorem dX12_unfinished_3 : decode cX12_unfinished 3 = .ok (.istore_n 3, 1) := by decide +kernel
theorem dX12_unfinished_4 : decode cX12_unfinished 4 = .ok (.iload_n 3, 1) := by decide +kernel
theorem dX12_unfinished_5 : decode cX12_unfinished 5 = .ok (.aload_n 0, 1) := by decide +kernel
theorem dX12_unfinished_6 : decode cX12_unfinished 6 = .ok (.getfield 203, 3) := by decide +kernel
theorem dX12_unfinished_9 : decode cX12_unfinished 9 = .ok (.if_icmp .ge 33, 3) := by decide +kernel
theorem dX12_unfinished_12 : decode cX12_unfinished 12 = .ok (.aload_n 0, 1) := by decide +kernel
theorem dX12_unfinished_13 : decode cX12_unfinished 13 = .ok (.iload_n 3, 1) := by decide +kernel
theorem dX12_unfinished_14 : decode cX12_unfinished 14 = .ok (.invokevirtual 189, 3) := by decide +kernel
theorem dX12_unfinished_17 : decode cX12_unfinished 17 = .ok (.astore 4, 2) := by decide +kernel
theorem dX12_unfinished_19 : decode cX12_unfinished 19 = .ok (.aload 4, 2) := by decide +kernel
theorem dX12_unfinished_21 : decode cX12_unfinished 21 = .ok (.ifnull 15, 3) := by decide +kernel
theorem dX12_unfinished_24 : decode cX12_unfinished 24 = .ok (.aload 4, 2) := by decide +kernel
theorem dX12_unfinished_26 : decode cX12_unfinished 26 = .ok (.iload_n 1, 1) := by decide +kernel
theorem dX12_unfinished_27 : decode cX12_unfinished 27 = .ok (.invokevirtual 367, 3) := by decide +kernel
theorem dX12_unfinished_30 : decode cX12_unfinished 30 = .ok (.ifCond .eq 6, 3) := by decide +kernel
theorem dX12_unfinished_33 : decode cX12_unfinished 33 = .ok (.iinc 2 1, 3) := by decide +kernel
theorem dX12_unfinished_36 : decode cX12_unfinished 36 = .ok (.iinc 3 1, 3) := by decide +kernel
theorem dX12_unfinished_39 : decode cX12_unfinished 39 = .ok (.goto (-35), 3) := by decide +kernel
theorem dX12_unfinished_42 : decode cX12_unfinished 42 = .ok (.iload_n 2, 1) := by decide +kernel
theorem dX12_unfinished_43 : decode cX12_unfinished 43 = .ok (.ireturn, 1) := by decide +kernel
set_option maxRecDepth 20000 in
theorem ggX12_line_X12_entryOfKind : GoodIn wsX12_line wsX12_entryOfKind := goodIn_r _ [22, 23, 24, 25, 26, 21, 27, 28, 29, 198, 199, 200, 201, 202, 203, 204, 205, 206, 207, 208, 209, 210, 211, 212, 213, 214, 215, 216, 217, 218, 219, 220, 221, 222, 223, 224, 225, 226, 227, 228, 229, 230, 231, 232, 233, 234, 235] (by decide +kernel) (by decide +kernel)
set_option maxRecDepth 20000 in
theorem gX12_line_X12_entryOfKind : GoodIn wsX12_line (wsV RX12 243 RX12 yX12_entryOfKind wsX12_entryOfKind) := goodIn_app (goodIn_of _ (by decide +kernel)) ggX12_line_X12_entryOfKind
set_option maxRecDepth 20000 in
theorem ggX12_line_X0_isDone : GoodIn wsX12_line wsX0_isDone := goodIn_r _ [34, 35, 36, 198, 199, 200, 201, 202, 203, 204, 205, 206, 207, 208, 209, 210, 211, 212, 213, 214, 215] (by decide +kernel) (by decide +kernel)
set_option maxRecDepth 20000 in
theorem gX12_line_X0_isDone : GoodIn wsX12_line (wsV RX12 306 RX0 yX0_isDone wsX0_isDone) := goodIn_app (goodIn_of _ (by decide +kernel)) ggX12_line_X0_isDone
set_option maxRecDepth 20000 in
theorem ggX12_line_X12_isStruck : GoodIn wsX12_line wsX12_isStruck := goodIn_r _ [40, 41, 198, 199, 200, 201, 202, 203, 204, 205, 206, 207, 208, 209, 210, 211, 212, 213, 214, 215] (by decide +kernel) (by decide +kernel)
set_option maxRecDepth 20000 in
theorem gX12_line_X12_isStruck : GoodIn wsX12_line (wsV RX12 319 RX12 yX12_isStruck wsX12_isStruck) := goodIn_app (goodIn_of _ (by decide +kernel)) ggX12_line_X12_isStruck
set_option maxRecDepth 20000 in
theorem ggX12_line_X12_isLater : GoodIn wsX12_line wsX12_isLater := goodIn_r _ [45, 46, 41, 47, 48, 49, 50, 21, 51, 52, 198, 199, 200, 201, 202, 203, 204, 205, 206, 207, 208, 209, 210, 211, 212, 213, 214, 215, 216, 217, 218, 219, 220, 221, 222, 223, 224, 225, 226, 227, 228, 229, 230, 231, 232, 233, 234, 235] (by decide +kernel) (by decide +kernel)
set_option maxRecDepth 20000 in
theorem gX12_line_X12_isLater : GoodIn wsX12_line (wsV RX12 256 RX12 yX12_isLater wsX12_isLater) := goodIn_app (goodIn_of _ (by decide +kernel)) ggX12_line_X12_isLater
set_option maxRecDepth 20000 in
theorem ggX12_line_X12_livingHandAt : GoodIn wsX12_line wsX12_livingHandAt := goodIn_r _ [56, 57, 58, 59, 60, 21, 61, 62, 63, 245, 246, 247, 248, 249, 250, 216, 217, 218, 219, 220, 221, 222, 223, 224, 225, 226, 227, 228, 229, 230, 231, 232, 233, 234, 235] (by decide +kernel) (by decide +kernel)
set_option maxRecDepth 20000 in
theorem gX12_line_X12_livingHandAt : GoodIn wsX12_line (wsV RX12 316 RX12 yX12_livingHandAt wsX12_livingHandAt) := goodIn_app (goodIn_of _ (by decide +kernel)) ggX12_line_X12_livingHandAt
set_option maxRecDepth 20000 in
theorem ggX12_line_X12_canLean : GoodIn wsX12_line wsX12_canLean := goodIn_r _ [67, 68, 69, 70, 71, 72, 73, 74, 75, 76, 77, 78, 79, 80, 81, 82, 83, 84, 85, 21, 86, 2, 17, 216, 217, 218, 219, 220, 221, 222, 223, 224, 225, 226, 227, 228, 229, 230, 231, 232, 233, 234, 235, 251, 252, 253, 254, 255, 256, 257, 258, 259, 260, 261, 262] (by decide +kernel) (by decide +kernel)
set_option maxRecDepth 20000 in
theorem gX12_line_X12_canLean : GoodIn wsX12_line (wsV RX12 371 RX12 yX12_canLean wsX12_canLean) := goodIn_app (goodIn_of _ (by decide +kernel)) ggX12_line_X12_canLean
set_option maxRecDepth 20000 in
theorem ggX12_line_X4_init : GoodIn wsX12_line wsX4_init := goodIn_r _ [89, 90, 91, 92, 93, 94, 95, 96, 97, 98, 99, 100, 236, 237, 238, 239, 240, 241, 242, 243, 244] (by decide +kernel) (by decide +kernel)
set_option maxRecDepth 20000 in
theorem gX12_line_X4_init : GoodIn wsX12_line (wsX4_init) := ggX12_line_X4_init
set_option maxRecDepth 20000 in
theorem ggX12_line_X12_lean : GoodIn wsX12_line wsX12_lean := goodIn_r _ [104, 105, 12, 68, 69, 106, 2, 107, 83, 84, 85, 21, 86, 17, 70, 71, 72, 73, 74, 75, 76, 77, 78, 79, 80, 81, 82, 236, 237, 238, 239, 240, 241, 242, 243, 244, 216, 217, 218, 219, 220, 221, 222, 223, 224, 225, 226, 227, 228, 229, 230, 231, 232, 233, 234, 235, 251, 252, 253, 254, 255, 256, 257, 258, 259, 260, 261, 262] (by decide +kernel) (by decide +kernel)
set_option maxRecDepth 20000 in
theorem gX12_line_X12_lean : GoodIn wsX12_line (wsV RX12 375 RX12 yX12_lean wsX12_lean) := goodIn_app (goodIn_of _ (by decide +kernel)) ggX12_line_X12_lean
set_option maxRecDepth 20000 in
theorem ggX12_line_X12_valueFor : GoodIn wsX12_line wsX12_valueFor := goodIn_r _ [111, 112, 69, 113, 114, 115, 21, 116, 46, 47, 42, 43, 44, 45, 41, 48, 49, 50, 51, 52, 117, 118, 119, 120, 121, 15, 13, 122, 123, 124, 125, 58, 59, 60, 61, 62, 63, 126, 127, 128, 129, 130, 131, 132, 133, 134, 135, 136, 137, 138, 139, 140, 141, 142, 28, 23, 143, 24, 25, 26, 27, 29, 37, 38, 39, 40, 144, 145, 146, 147, 148, 149, 150, 33, 151, 152, 153, 35, 36, 154, 155, 156, 157, 158, 159, 160, 161, 162, 163, 164, 165, 166, 167, 168, 169, 170, 171, 172, 173, 174, 175, 176, 177, 178, 179, 180, 181, 182, 183, 184, 185, 186, 187, 188, 189, 190, 191, 192, 193, 9, 194, 195, 196, 197, 216, 217, 218, 219, 220, 221, 222, 223, 224, 225, 226, 227, 228, 229, 230, 231, 232, 233, 234, 235, 198, 199, 200, 201, 202, 203, 204, 205, 206, 207, 208, 209, 210, 211, 212, 213, 214, 215, 245, 246, 247, 248, 249, 250, 263, 264, 265, 266, 267, 268, 269, 270, 271, 272, 273, 274] (by decide +kernel) (by decide +kernel)
set_option maxRecDepth 20000 in
theorem gX12_line_X12_valueFor : GoodIn wsX12_line (wsV RX12 328 RX12 yX12_valueFor wsX12_valueFor) := goodIn_app (goodIn_of _ (by decide +kernel)) ggX12_line_X12_valueFor
theorem dX12_line_0 : decode cX12_line 0 = .ok (.aload_n 0, 1) := by decide +kernel
theorem dX12_line_1 : decode cX12_line 1 = .ok (.iload_n 1, 1) := by decide +kernel
theorem dX12_line_2 : decode cX12_line 2 = .ok (.iconst 0, 1) := by decide +kernel
theorem dX12_line_3 : decode cX12_line 3 = .ok (.invokevirtual 243, 3) := by decide +kernel
theorem dX12_line_6 : decode cX12_line 6 = .ok (.astore 4, 2) := by decide +kernel
theorem dX12_line_8 : decode cX12_line 8 = .ok (.aload 4, 2) := by decide +kernel
theorem dX12_line_10 : decode cX12_line 10 = .ok (.ifnull 29, 3) := by decide +kernel
theorem dX12_line_13 : decode cX12_line 13 = .ok (.aload 4, 2) := by decide +kernel
theorem dX12_line_15 : decode cX12_line 15 = .ok (.invokevirtual 306, 3) := by decide +kernel
theorem dX12_line_18 : decode cX12_line 18 = .ok (.ifCond .ne 21, 3) := by decide +kernel
theorem dX12_line_21 : decode cX12_line 21 = .ok (.aload_n 0, 1) := by decide +kernel
theorem dX12_line_22 : decode cX12_line 22 = .ok (.aload 4, 2) := by decide +kernel
theorem dX12_line_24 : decode cX12_line 24 = .ok (.invokevirtual 319, 3) := by decide +kernel
theorem dX12_line_27 : decode cX12_line 27 = .ok (.ifCond .ne 12, 3) := by decide +kernel
theorem dX12_line_30 : decode cX12_line 30 = .ok (.aload_n 0, 1) := by decide +kernel
theorem dX12_line_31 : decode cX12_line 31 = .ok (.aload 4, 2) := by decide +kernel
theorem dX12_line_33 : decode cX12_line 33 = .ok (.invokevirtual 256, 3) := by decide +kernel
theorem dX12_line_36 : decode cX12_line 36 = .ok (.ifCond .eq 5, 3) := by decide +kernel
theorem dX12_line_39 : decode cX12_line 39 = .ok (.iconst (-1), 1) := by decide +kernel
theorem dX12_line_40 : decode cX12_line 40 = .ok (.ireturn, 1) := by decide +kernel
theorem dX12_line_41 : decode cX12_line 41 = .ok (.aload_n 0, 1) := by decide +kernel
theorem dX12_line_42 : decode cX12_line 42 = .ok (.aload 4, 2) := by decide +kernel
theorem dX12_line_44 : decode cX12_line 44 = .ok (.getfield 313, 3) := by decide +kernel
theorem dX12_line_47 : decode cX12_line 47 = .ok (.invokevirtual 316, 3) := by decide +kernel
theorem dX12_line_50 : decode cX12_line 50 = .ok (.astore 5, 2) := by decide +kernel
theorem dX12_line_52 : decode cX12_line 52 = .ok (.aload 5, 2) := by decide +kernel
theorem dX12_line_54 : decode cX12_line 54 = .ok (.ifnull 31, 3) := by decide +kernel
theorem dX12_line_57 : decode cX12_line 57 = .ok (.iload_n 3, 1) := by decide +kernel
theorem dX12_line_58 : decode cX12_line 58 = .ok (.ifCond .lt 27, 3) := by decide +kernel
theorem dX12_line_61 : decode cX12_line 61 = .ok (.iload_n 3, 1) := by decide +kernel
theorem dX12_line_62 : decode cX12_line 62 = .ok (.bipush 31, 2) := by decide +kernel
theorem dX12_line_64 : decode cX12_line 64 = .ok (.if_icmp .ge 21, 3) := by decide +kernel
theorem dX12_line_67 : decode cX12_line 67 = .ok (.aload_n 0, 1) := by decide +kernel
theorem dX12_line_68 : decode cX12_line 68 = .ok (.getfield 370, 3) := by decide +kernel
theorem dX12_line_71 : decode cX12_line 71 = .ok (.sipush 300, 3) := by decide +kernel
theorem dX12_line_74 : decode cX12_line 74 = .ok (.if_icmp .ge 11, 3) := by decide +kernel
theorem dX12_line_77 : decode cX12_line 77 = .ok (.aload_n 0, 1) := by decide +kernel
theorem dX12_line_78 : decode cX12_line 78 = .ok (.iload_n 2, 1) := by decide +kernel
theorem dX12_line_79 : decode cX12_line 79 = .ok (.invokevirtual 371, 3) := by decide +kernel
theorem dX12_line_82 : decode cX12_line 82 = .ok (.ifCond .ne 5, 3) := by decide +kernel
theorem dX12_line_85 : decode cX12_line 85 = .ok (.iconst (-1), 1) := by decide +kernel
theorem dX12_line_86 : decode cX12_line 86 = .ok (.ireturn, 1) := by decide +kernel
theorem dX12_line_87 : decode cX12_line 87 = .ok (.new 57, 3) := by decide +kernel
theorem dX12_line_90 : decode cX12_line 90 = .ok (.dup, 1) := by decide +kernel
theorem dX12_line_91 : decode cX12_line 91 = .ok (.iload_n 1, 1) := by decide +kernel
theorem dX12_line_92 : decode cX12_line 92 = .ok (.aload 4, 2) := by decide +kernel
theorem dX12_line_94 : decode cX12_line 94 = .ok (.getfield 313, 3) := by decide +kernel
theorem dX12_line_97 : decode cX12_line 97 = .ok (.iload_n 3, 1) := by decide +kernel
theorem dX12_line_98 : decode cX12_line 98 = .ok (.invokespecial 374, 3) := by decide +kernel
theorem dX12_line_101 : decode cX12_line 101 = .ok (.astore 6, 2) := by decide +kernel
theorem dX12_line_103 : decode cX12_line 103 = .ok (.aload_n 0, 1) := by decide +kernel
theorem dX12_line_104 : decode cX12_line 104 = .ok (.aload 6, 2) := by decide +kernel
theorem dX12_line_106 : decode cX12_line 106 = .ok (.iload_n 2, 1) := by decide +kernel
theorem dX12_line_107 : decode cX12_line 107 = .ok (.invokevirtual 375, 3) := by decide +kernel
theorem dX12_line_110 : decode cX12_line 110 = .ok (.aload 6, 2) := by decide +kernel
theorem dX12_line_112 : decode cX12_line 112 = .ok (.iconst 0, 1) := by decide +kernel
theorem dX12_line_113 : decode cX12_line 113 = .ok (.aload_n 0, 1) := by decide +kernel
theorem dX12_line_114 : decode cX12_line 114 = .ok (.bipush 11, 2) := by decide +kernel
theorem dX12_line_116 : decode cX12_line 116 = .ok (.aload 4, 2) := by decide +kernel
theorem dX12_line_118 : decode cX12_line 118 = .ok (.getfield 177, 3) := by decide +kernel
theorem dX12_line_121 : decode cX12_line 121 = .ok (.iadd, 1) := by decide +kernel
theorem dX12_line_122 : decode cX12_line 122 = .ok (.aload 4, 2) := by decide +kernel
theorem dX12_line_124 : decode cX12_line 124 = .ok (.aload 4, 2) := by decide +kernel
theorem dX12_line_126 : decode cX12_line 126 = .ok (.getfield 313, 3) := by decide +kernel
theorem dX12_line_129 : decode cX12_line 129 = .ok (.invokevirtual 328, 3) := by decide +kernel
theorem dX12_line_132 : decode cX12_line 132 = .ok (.invokestatic 379, 3) := by decide +kernel
theorem dX12_line_135 : decode cX12_line 135 = .ok (.putfield 382, 3) := by decide +kernel
theorem dX12_line_138 : decode cX12_line 138 = .ok (.aload 6, 2) := by decide +kernel
theorem dX12_line_140 : decode cX12_line 140 = .ok (.getfield 385, 3) := by decide +kernel
theorem dX12_line_143 : decode cX12_line 143 = .ok (.iconst (-1), 1) := by decide +kernel
theorem dX12_line_144 : decode cX12_line 144 = .ok (.if_icmp .eq 20, 3) := by decide +kernel
theorem dX12_line_147 : decode cX12_line 147 = .ok (.aload 4, 2) := by decide +kernel
theorem dX12_line_149 : decode cX12_line 149 = .ok (.dup, 1) := by decide +kernel
theorem dX12_line_150 : decode cX12_line 150 = .ok (.getfield 345, 3) := by decide +kernel
theorem dX12_line_153 : decode cX12_line 153 = .ok (.lconst 1, 1) := by decide +kernel
theorem dX12_line_154 : decode cX12_line 154 = .ok (.aload 6, 2) := by decide +kernel
theorem dX12_line_156 : decode cX12_line 156 = .ok (.getfield 385, 3) := by decide +kernel
theorem dX12_line_159 : decode cX12_line 159 = .ok (.lshl, 1) := by decide +kernel
theorem dX12_line_160 : decode cX12_line 160 = .ok (.lor, 1) := by decide +kernel
theorem dX12_line_161 : decode cX12_line 161 = .ok (.putfield 345, 3) := by decide +kernel
theorem dX12_line_164 : decode cX12_line 164 = .ok (.aload 4, 2) := by decide +kernel
theorem dX12_line_166 : decode cX12_line 166 = .ok (.dup, 1) := by decide +kernel
theorem dX12_line_167 : decode cX12_line 167 = .ok (.getfield 325, 3) := by decide +kernel
theorem dX12_line_170 : decode cX12_line 170 = .ok (.iconst 1, 1) := by decide +kernel
theorem dX12_line_171 : decode cX12_line 171 = .ok (.aload 4, 2) := by decide +kernel
theorem dX12_line_173 : decode cX12_line 173 = .ok (.getfield 313, 3) := by decide +kernel
theorem dX12_line_176 : decode cX12_line 176 = .ok (.ishl, 1) := by decide +kernel
theorem dX12_line_177 : decode cX12_line 177 = .ok (.ior, 1) := by decide +kernel
theorem dX12_line_178 : decode cX12_line 178 = .ok (.putfield 325, 3) := by decide +kernel
theorem dX12_line_181 : decode cX12_line 181 = .ok (.aload 4, 2) := by decide +kernel
theorem dX12_line_183 : decode cX12_line 183 = .ok (.dup, 1) := by decide +kernel
theorem dX12_line_184 : decode cX12_line 184 = .ok (.getfield 342, 3) := by decide +kernel
theorem dX12_line_187 : decode cX12_line 187 = .ok (.iconst 1, 1) := by decide +kernel
theorem dX12_line_188 : decode cX12_line 188 = .ok (.iadd, 1) := by decide +kernel
theorem dX12_line_189 : decode cX12_line 189 = .ok (.putfield 342, 3) := by decide +kernel
theorem dX12_line_192 : decode cX12_line 192 = .ok (.aload 5, 2) := by decide +kernel
theorem dX12_line_194 : decode cX12_line 194 = .ok (.dup, 1) := by decide +kernel
theorem dX12_line_195 : decode cX12_line 195 = .ok (.getfield 388, 3) := by decide +kernel
theorem dX12_line_198 : decode cX12_line 198 = .ok (.aload 6, 2) := by decide +kernel
theorem dX12_line_200 : decode cX12_line 200 = .ok (.getfield 382, 3) := by decide +kernel
theorem dX12_line_203 : decode cX12_line 203 = .ok (.iadd, 1) := by decide +kernel
theorem dX12_line_204 : decode cX12_line 204 = .ok (.putfield 388, 3) := by decide +kernel
theorem dX12_line_207 : decode cX12_line 207 = .ok (.aload_n 0, 1) := by decide +kernel
theorem dX12_line_208 : decode cX12_line 208 = .ok (.getfield 59, 3) := by decide +kernel
theorem dX12_line_211 : decode cX12_line 211 = .ok (.aload_n 0, 1) := by decide +kernel
theorem dX12_line_212 : decode cX12_line 212 = .ok (.getfield 370, 3) := by decide +kernel
theorem dX12_line_215 : decode cX12_line 215 = .ok (.aload 6, 2) := by decide +kernel
theorem dX12_line_217 : decode cX12_line 217 = .ok (.aastore, 1) := by decide +kernel
theorem dX12_line_218 : decode cX12_line 218 = .ok (.aload_n 0, 1) := by decide +kernel
theorem dX12_line_219 : decode cX12_line 219 = .ok (.dup, 1) := by decide +kernel
theorem dX12_line_220 : decode cX12_line 220 = .ok (.getfield 370, 3) := by decide +kernel
theorem dX12_line_223 : decode cX12_line 223 = .ok (.iconst 1, 1) := by decide +kernel
theorem dX12_line_224 : decode cX12_line 224 = .ok (.iadd, 1) := by decide +kernel
theorem dX12_line_225 : decode cX12_line 225 = .ok (.putfield 370, 3) := by decide +kernel
theorem dX12_line_228 : decode cX12_line 228 = .ok (.aload_n 0, 1) := by decide +kernel
theorem dX12_line_229 : decode cX12_line 229 = .ok (.getfield 370, 3) := by decide +kernel
theorem dX12_line_232 : decode cX12_line 232 = .ok (.iconst 1, 1) := by decide +kernel
theorem dX12_line_233 : decode cX12_line 233 = .ok (.isub, 1) := by decide +kernel
theorem dX12_line_234 : decode cX12_line 234 = .ok (.ireturn, 1) := by decide +kernel
set_option maxRecDepth 20000 in
theorem ggX12_canLean_X5_valueOn : GoodIn wsX12_canLean wsX5_valueOn := goodIn_r _ [7, 8, 9, 10, 11, 6, 12, 13, 14, 15, 43, 44, 45, 46, 47, 48, 49, 50, 51, 52, 53, 54] (by decide +kernel) (by decide +kernel)
set_option maxRecDepth 20000 in
theorem gX12_canLean_X5_valueOn : GoodIn wsX12_canLean (wsV RX12 389 RX5 yX5_valueOn wsX5_valueOn) := goodIn_app (goodIn_of _ (by decide +kernel)) ggX12_canLean_X5_valueOn
set_option maxRecDepth 20000 in
theorem ggX12_canLean_X12_lineAt : GoodIn wsX12_canLean wsX12_lineAt := goodIn_r _ [20, 21, 22, 23, 24, 25, 26, 27, 28, 29, 30, 31, 32, 33, 34, 35, 36, 37, 38, 39, 40, 41, 42] (by decide +kernel) (by decide +kernel)
set_option maxRecDepth 20000 in
theorem gX12_canLean_X12_lineAt : GoodIn wsX12_canLean (wsV RX12 392 RX12 yX12_lineAt wsX12_lineAt) := goodIn_app (goodIn_of _ (by decide +kernel)) ggX12_canLean_X12_lineAt
theorem dX12_canLean_0 : decode cX12_canLean 0 = .ok (.iload_n 1, 1) := by decide +kernel
theorem dX12_canLean_1 : decode cX12_canLean 1 = .ok (.iconst (-1), 1) := by decide +kernel
theorem dX12_canLean_2 : decode cX12_canLean 2 = .ok (.if_icmp .eq 30, 3) := by decide +kernel
theorem dX12_canLean_5 : decode cX12_canLean 5 = .ok (.aload_n 0, 1) := by decide +kernel
theorem dX12_canLean_6 : decode cX12_canLean 6 = .ok (.getfield 66, 3) := by decide +kernel
theorem dX12_canLean_9 : decode cX12_canLean 9 = .ok (.iload_n 1, 1) := by decide +kernel
theorem dX12_canLean_10 : decode cX12_canLean 10 = .ok (.aload_n 0, 1) := by decide +kernel
theorem dX12_canLean_11 : decode cX12_canLean 11 = .ok (.getfield 133, 3) := by decide +kernel
theorem dX12_canLean_14 : decode cX12_canLean 14 = .ok (.invokevirtual 389, 3) := by decide +kernel
theorem dX12_canLean_17 : decode cX12_canLean 17 = .ok (.iconst (-1), 1) := by decide +kernel
theorem dX12_canLean_18 : decode cX12_canLean 18 = .ok (.if_icmp .ne 14, 3) := by decide +kernel
theorem dX12_canLean_21 : decode cX12_canLean 21 = .ok (.aload_n 0, 1) := by decide +kernel
theorem dX12_canLean_22 : decode cX12_canLean 22 = .ok (.iload_n 1, 1) := by decide +kernel
theorem dX12_canLean_23 : decode cX12_canLean 23 = .ok (.bipush 100, 2) := by decide +kernel
theorem dX12_canLean_25 : decode cX12_canLean 25 = .ok (.isub, 1) := by decide +kernel
theorem dX12_canLean_26 : decode cX12_canLean 26 = .ok (.invokevirtual 392, 3) := by decide +kernel
theorem dX12_canLean_29 : decode cX12_canLean 29 = .ok (.ifnull 7, 3) := by decide +kernel
theorem dX12_canLean_32 : decode cX12_canLean 32 = .ok (.iconst 1, 1) := by decide +kernel
theorem dX12_canLean_33 : decode cX12_canLean 33 = .ok (.goto 4, 3) := by decide +kernel
theorem dX12_canLean_36 : decode cX12_canLean 36 = .ok (.iconst 0, 1) := by decide +kernel
theorem dX12_canLean_37 : decode cX12_canLean 37 = .ok (.ireturn, 1) := by decide +kernel
set_option maxRecDepth 20000 in
theorem ggX12_lean_X12_lineAt : GoodIn wsX12_lean wsX12_lineAt := goodIn_r _ [12, 6, 13, 36, 37, 38, 39, 40, 41, 42, 43, 44, 45, 46, 47, 48, 49, 50, 51, 52, 53, 54, 55] (by decide +kernel) (by decide +kernel)
set_option maxRecDepth 20000 in
theorem gX12_lean_X12_lineAt : GoodIn wsX12_lean (wsV RX12 392 RX12 yX12_lineAt wsX12_lineAt) := goodIn_app (goodIn_of _ (by decide +kernel)) ggX12_lean_X12_lineAt
set_option maxRecDepth 20000 in
theorem ggX12_lean_X5_valueOn : GoodIn wsX12_lean wsX5_valueOn := goodIn_r _ [18, 19, 20, 21, 22, 17, 23, 24, 25, 26, 56, 57, 58, 59, 60, 61, 62, 63, 64, 65, 66, 67] (by decide +kernel) (by decide +kernel)
set_option maxRecDepth 20000 in
theorem gX12_lean_X5_valueOn : GoodIn wsX12_lean (wsV RX12 389 RX5 yX5_valueOn wsX5_valueOn) := goodIn_app (goodIn_of _ (by decide +kernel)) ggX12_lean_X5_valueOn
theorem dX12_lean_0 : decode cX12_lean 0 = .ok (.aload_n 0, 1) := by decide +kernel
theorem dX12_lean_1 : decode cX12_lean 1 = .ok (.iload_n 2, 1) := by decide +kernel
theorem dX12_lean_2 : decode cX12_lean 2 = .ok (.bipush 100, 2) := by decide +kernel
theorem dX12_lean_4 : decode cX12_lean 4 = .ok (.isub, 1) := by decide +kernel
theorem dX12_lean_5 : decode cX12_lean 5 = .ok (.invokevirtual 392, 3) := by decide +kernel
theorem dX12_lean_8 : decode cX12_lean 8 = .ok (.astore_n 3, 1) := by decide +kernel
theorem dX12_lean_9 : decode cX12_lean 9 = .ok (.iload_n 2, 1) := by decide +kernel
theorem dX12_lean_10 : decode cX12_lean 10 = .ok (.iconst (-1), 1) := by decide +kernel
theorem dX12_lean_11 : decode cX12_lean 11 = .ok (.if_icmp .ne 11, 3) := by decide +kernel
theorem dX12_lean_14 : decode cX12_lean 14 = .ok (.aload_n 1, 1) := by decide +kernel
theorem dX12_lean_15 : decode cX12_lean 15 = .ok (.iconst (-1), 1) := by decide +kernel
theorem dX12_lean_16 : decode cX12_lean 16 = .ok (.putfield 396, 3) := by decide +kernel
theorem dX12_lean_19 : decode cX12_lean 19 = .ok (.goto 55, 3) := by decide +kernel
theorem dX12_lean_22 : decode cX12_lean 22 = .ok (.aload_n 3, 1) := by decide +kernel
theorem dX12_lean_23 : decode cX12_lean 23 = .ok (.ifnonnull 35, 3) := by decide +kernel
theorem dX12_lean_26 : decode cX12_lean 26 = .ok (.aload_n 1, 1) := by decide +kernel
theorem dX12_lean_27 : decode cX12_lean 27 = .ok (.iload_n 2, 1) := by decide +kernel
theorem dX12_lean_28 : decode cX12_lean 28 = .ok (.putfield 385, 3) := by decide +kernel
theorem dX12_lean_31 : decode cX12_lean 31 = .ok (.aload_n 1, 1) := by decide +kernel
theorem dX12_lean_32 : decode cX12_lean 32 = .ok (.aload_n 0, 1) := by decide +kernel
theorem dX12_lean_33 : decode cX12_lean 33 = .ok (.getfield 66, 3) := by decide +kernel
theorem dX12_lean_36 : decode cX12_lean 36 = .ok (.iload_n 2, 1) := by decide +kernel
theorem dX12_lean_37 : decode cX12_lean 37 = .ok (.aload_n 0, 1) := by decide +kernel
theorem dX12_lean_38 : decode cX12_lean 38 = .ok (.getfield 133, 3) := by decide +kernel
theorem dX12_lean_41 : decode cX12_lean 41 = .ok (.invokevirtual 389, 3) := by decide +kernel
theorem dX12_lean_44 : decode cX12_lean 44 = .ok (.putfield 399, 3) := by decide +kernel
theorem dX12_lean_47 : decode cX12_lean 47 = .ok (.aload_n 1, 1) := by decide +kernel
theorem dX12_lean_48 : decode cX12_lean 48 = .ok (.aload_n 0, 1) := by decide +kernel
theorem dX12_lean_49 : decode cX12_lean 49 = .ok (.getfield 370, 3) := by decide +kernel
theorem dX12_lean_52 : decode cX12_lean 52 = .ok (.putfield 396, 3) := by decide +kernel
theorem dX12_lean_55 : decode cX12_lean 55 = .ok (.goto 19, 3) := by decide +kernel
theorem dX12_lean_58 : decode cX12_lean 58 = .ok (.aload_n 1, 1) := by decide +kernel
theorem dX12_lean_59 : decode cX12_lean 59 = .ok (.iload_n 2, 1) := by decide +kernel
theorem dX12_lean_60 : decode cX12_lean 60 = .ok (.bipush 100, 2) := by decide +kernel
theorem dX12_lean_62 : decode cX12_lean 62 = .ok (.isub, 1) := by decide +kernel
theorem dX12_lean_63 : decode cX12_lean 63 = .ok (.putfield 402, 3) := by decide +kernel
theorem dX12_lean_66 : decode cX12_lean 66 = .ok (.aload_n 1, 1) := by decide +kernel
theorem dX12_lean_67 : decode cX12_lean 67 = .ok (.aload_n 3, 1) := by decide +kernel
theorem dX12_lean_68 : decode cX12_lean 68 = .ok (.getfield 396, 3) := by decide +kernel
theorem dX12_lean_71 : decode cX12_lean 71 = .ok (.putfield 396, 3) := by decide +kernel
theorem dX12_lean_74 : decode cX12_lean 74 = .ok (.return_, 1) := by decide +kernel
theorem dX12_lineAt_0 : decode cX12_lineAt 0 = .ok (.iload_n 1, 1) := by decide +kernel
theorem dX12_lineAt_1 : decode cX12_lineAt 1 = .ok (.ifCond .lt 27, 3) := by decide +kernel
theorem dX12_lineAt_4 : decode cX12_lineAt 4 = .ok (.iload_n 1, 1) := by decide +kernel
theorem dX12_lineAt_5 : decode cX12_lineAt 5 = .ok (.aload_n 0, 1) := by decide +kernel
theorem dX12_lineAt_6 : decode cX12_lineAt 6 = .ok (.getfield 370, 3) := by decide +kernel
theorem dX12_lineAt_9 : decode cX12_lineAt 9 = .ok (.if_icmp .ge 19, 3) := by decide +kernel
theorem dX12_lineAt_12 : decode cX12_lineAt 12 = .ok (.iload_n 1, 1) := by decide +kernel
theorem dX12_lineAt_13 : decode cX12_lineAt 13 = .ok (.sipush 300, 3) := by decide +kernel
theorem dX12_lineAt_16 : decode cX12_lineAt 16 = .ok (.if_icmp .ge 12, 3) := by decide +kernel
theorem dX12_lineAt_19 : decode cX12_lineAt 19 = .ok (.aload_n 0, 1) := by decide +kernel
theorem dX12_lineAt_20 : decode cX12_lineAt 20 = .ok (.getfield 59, 3) := by decide +kernel
theorem dX12_lineAt_23 : decode cX12_lineAt 23 = .ok (.iload_n 1, 1) := by decide +kernel
theorem dX12_lineAt_24 : decode cX12_lineAt 24 = .ok (.aaload, 1) := by decide +kernel
theorem dX12_lineAt_25 : decode cX12_lineAt 25 = .ok (.goto 4, 3) := by decide +kernel
theorem dX12_lineAt_28 : decode cX12_lineAt 28 = .ok (.aconst_null, 1) := by decide +kernel
theorem dX12_lineAt_29 : decode cX12_lineAt 29 = .ok (.areturn, 1) := by decide +kernel
set_option maxRecDepth 20000 in
theorem ggX12_die_X12_livingHandAt : GoodIn wsX12_die wsX12_livingHandAt := goodIn_r _ [6, 1, 7, 8, 9, 5, 10, 11, 12, 33, 34, 35, 36, 37, 38, 39, 40, 41, 42, 43, 44, 45, 46, 47, 48, 49, 50, 51, 52, 53, 54, 55, 56, 57, 58] (by decide +kernel) (by decide +kernel)
set_option maxRecDepth 20000 in
theorem gX12_die_X12_livingHandAt : GoodIn wsX12_die (wsV RX12 316 RX12 yX12_livingHandAt wsX12_livingHandAt) := goodIn_app (goodIn_of _ (by decide +kernel)) ggX12_die_X12_livingHandAt
set_option maxRecDepth 20000 in
theorem ggX12_die_X12_unfinished : GoodIn wsX12_die wsX12_unfinished := goodIn_r _ [16, 17, 18, 19, 20, 5, 21, 22, 23, 24, 25, 26, 27, 28, 29, 30, 31, 32, 39, 40, 41, 42, 43, 44, 45, 46, 47, 48, 49, 50, 51, 52, 53, 54, 55, 56, 57, 58, 59, 60, 61, 62, 63, 64, 65, 66, 67, 68, 69, 70, 71, 72, 73, 74, 75, 76] (by decide +kernel) (by decide +kernel)
set_option maxRecDepth 20000 in
theorem gX12_die_X12_unfinished : GoodIn wsX12_die (wsV RX12 364 RX12 yX12_unfinished wsX12_unfinished) := goodIn_app (goodIn_of _ (by decide +kernel)) ggX12_die_X12_unfinished
theorem dX12_die_0 : decode cX12_die 0 = .ok (.aload_n 0, 1) := by decide +kernel
theorem dX12_die_1 : decode cX12_die 1 = .ok (.iload_n 1, 1) := by decide +kernel
theorem dX12_die_2 : decode cX12_die 2 = .ok (.invokevirtual 316, 3) := by decide +kernel
theorem dX12_die_5 : decode cX12_die 5 = .ok (.astore_n 2, 1) := by decide +kernel
theorem dX12_die_6 : decode cX12_die 6 = .ok (.aload_n 2, 1) := by decide +kernel
theorem dX12_die_7 : decode cX12_die 7 = .ok (.ifnonnull 5, 3) := by decide +kernel
theorem dX12_die_10 : decode cX12_die 10 = .ok (.iconst (-1), 1) := by decide +kernel
theorem dX12_die_11 : decode cX12_die 11 = .ok (.ireturn, 1) := by decide +kernel
theorem dX12_die_12 : decode cX12_die 12 = .ok (.aload_n 2, 1) := by decide +kernel
theorem dX12_die_13 : decode cX12_die 13 = .ok (.iconst 0, 1) := by decide +kernel
theorem dX12_die_14 : decode cX12_die 14 = .ok (.putfield 300, 3) := by decide +kernel
theorem dX12_die_17 : decode cX12_die 17 = .ok (.aload_n 0, 1) := by decide +kernel
theorem dX12_die_18 : decode cX12_die 18 = .ok (.iload_n 1, 1) := by decide +kernel
theorem dX12_die_19 : decode cX12_die 19 = .ok (.invokevirtual 364, 3) := by decide +kernel
theorem dX12_die_22 : decode cX12_die 22 = .ok (.ireturn, 1) := by decide +kernel
set_option maxRecDepth 20000 in
theorem ggX12_hangs_X12_handAt : GoodIn wsX12_hangs wsX12_handAt := goodIn_r _ [7, 8, 9, 44, 45, 46, 47, 48, 49, 50, 51, 52, 53, 54, 55, 56, 57, 58, 59, 60, 61, 62, 63] (by decide +kernel) (by decide +kernel)
set_option maxRecDepth 20000 in
theorem gX12_hangs_X12_handAt : GoodIn wsX12_hangs (wsV RX12 296 RX12 yX12_handAt wsX12_handAt) := goodIn_app (goodIn_of _ (by decide +kernel)) ggX12_hangs_X12_handAt
set_option maxRecDepth 20000 in
theorem ggX12_hangs_X0_isUnfinishedOf : GoodIn wsX12_hangs wsX0_isUnfinishedOf := goodIn_r _ [14, 15, 16, 17, 18, 19, 20, 21, 22, 23, 24, 25, 26, 27, 28, 29, 30, 31, 32, 33, 34, 35, 36, 37] (by decide +kernel) (by decide +kernel)
set_option maxRecDepth 20000 in
theorem gX12_hangs_X0_isUnfinishedOf : GoodIn wsX12_hangs (wsV RX12 367 RX0 yX0_isUnfinishedOf wsX0_isUnfinishedOf) := goodIn_app (goodIn_of _ (by decide +kernel)) ggX12_hangs_X0_isUnfinishedOf
theorem dX12_hangs_0 : decode cX12_hangs 0 = .ok (.aload_n 0, 1) := by decide +kernel
theorem dX12_hangs_1 : decode cX12_hangs 1 = .ok (.aload_n 1, 1) := by decide +kernel
theorem dX12_hangs_2 : decode cX12_hangs 2 = .ok (.getfield 313, 3) := by decide +kernel
theorem dX12_hangs_5 : decode cX12_hangs 5 = .ok (.invokevirtual 296, 3) := by decide +kernel
theorem dX12_hangs_8 : decode cX12_hangs 8 = .ok (.astore_n 2, 1) := by decide +kernel
theorem dX12_hangs_9 : decode cX12_hangs 9 = .ok (.aload_n 2, 1) := by decide +kernel
theorem dX12_hangs_10 : decode cX12_hangs 10 = .ok (.ifnull 25, 3) := by decide +kernel
theorem dX12_hangs_13 : decode cX12_hangs 13 = .ok (.aload_n 2, 1) := by decide +kernel
theorem dX12_hangs_14 : decode cX12_hangs 14 = .ok (.getfield 300, 3) := by decide +kernel
theorem dX12_hangs_17 : decode cX12_hangs 17 = .ok (.ifCond .ne 18, 3) := by decide +kernel
theorem dX12_hangs_20 : decode cX12_hangs 20 = .ok (.aload_n 1, 1) := by decide +kernel
theorem dX12_hangs_21 : decode cX12_hangs 21 = .ok (.aload_n 1, 1) := by decide +kernel
theorem dX12_hangs_22 : decode cX12_hangs 22 = .ok (.getfield 313, 3) := by decide +kernel
theorem dX12_hangs_25 : decode cX12_hangs 25 = .ok (.invokevirtual 367, 3) := by decide +kernel
theorem dX12_hangs_28 : decode cX12_hangs 28 = .ok (.ifCond .eq 7, 3) := by decide +kernel
theorem dX12_hangs_31 : decode cX12_hangs 31 = .ok (.iconst 1, 1) := by decide +kernel
theorem dX12_hangs_32 : decode cX12_hangs 32 = .ok (.goto 4, 3) := by decide +kernel
theorem dX12_hangs_35 : decode cX12_hangs 35 = .ok (.iconst 0, 1) := by decide +kernel
theorem dX12_hangs_36 : decode cX12_hangs 36 = .ok (.ireturn, 1) := by decide +kernel
set_option maxRecDepth 20000 in
theorem ggX12_takers_X12_entryAt : GoodIn wsX12_takers wsX12_entryAt := goodIn_r _ [6, 7, 8, 145, 146, 147, 148, 149, 150, 151, 152, 153, 154, 155, 156, 157, 158, 159, 160, 161, 162, 163, 164] (by decide +kernel) (by decide +kernel)
set_option maxRecDepth 20000 in
theorem gX12_takers_X12_entryAt : GoodIn wsX12_takers (wsV RX12 189 RX12 yX12_entryAt wsX12_entryAt) := goodIn_app (goodIn_of _ (by decide +kernel)) ggX12_takers_X12_entryAt
set_option maxRecDepth 20000 in
theorem ggX12_takers_X12_hangs : GoodIn wsX12_takers wsX12_hangs := goodIn_r _ [12, 13, 14, 15, 16, 17, 5, 18, 1, 19, 20, 21, 22, 23, 24, 25, 26, 27, 28, 29, 165, 166, 167, 168, 169, 170, 171, 172, 173, 174, 175, 176, 177, 178, 179, 180, 181, 182, 183, 184, 185, 186, 187, 188, 145, 146, 147, 148, 149, 150, 151, 152, 153, 154, 155, 156, 157, 158, 159, 160, 161, 162, 163, 164] (by decide +kernel) (by decide +kernel)
set_option maxRecDepth 20000 in
theorem gX12_takers_X12_hangs : GoodIn wsX12_takers (wsV RX12 405 RX12 yX12_hangs wsX12_hangs) := goodIn_app (goodIn_of _ (by decide +kernel)) ggX12_takers_X12_hangs
set_option maxRecDepth 20000 in
theorem ggX12_takers_X12_mayTake : GoodIn wsX12_takers wsX12_mayTake := goodIn_r _ [33, 34, 35, 36, 37, 38, 39, 40, 41, 5, 42, 14, 15, 16, 17, 18, 1, 19, 43, 44, 45, 46, 47, 48, 49, 50, 51, 52, 53, 54, 55, 56, 57, 58, 59, 60, 61, 62, 63, 64, 65, 66, 67, 68, 69, 70, 71, 72, 73, 74, 75, 76, 77, 78, 79, 80, 81, 82, 83, 84, 85, 86, 87, 88, 89, 90, 91, 92, 93, 94, 7, 95, 96, 2, 3, 4, 6, 8, 97, 98, 99, 100, 20, 21, 22, 23, 24, 25, 26, 27, 28, 29, 101, 102, 103, 104, 105, 106, 107, 108, 109, 110, 111, 112, 113, 114, 115, 116, 117, 118, 119, 120, 121, 122, 123, 124, 125, 126, 127, 128, 129, 130, 131, 132, 133, 134, 135, 136, 137, 138, 139, 140, 141, 142, 143, 144, 165, 166, 167, 168, 169, 170, 171, 172, 173, 174, 175, 176, 177, 178, 179, 180, 181, 182, 183, 184, 185, 186, 187, 188, 145, 146, 147, 148, 149, 150, 151, 152, 153, 154, 155, 156, 157, 158, 159, 160, 161, 162, 163, 164, 189, 190, 191, 192, 193, 194, 195, 196, 197, 198, 199, 200] (by decide +kernel) (by decide +kernel)
set_option maxRecDepth 20000 in
theorem gX12_takers_X12_mayTake : GoodIn wsX12_takers (wsV RX12 309 RX12 yX12_mayTake wsX12_mayTake) := goodIn_app (goodIn_of _ (by decide +kernel)) ggX12_takers_X12_mayTake
theorem dX12_takers_0 : decode cX12_takers 0 = .ok (.aload_n 0, 1) := by decide +kernel
theorem dX12_takers_1 : decode cX12_takers 1 = .ok (.iload_n 1, 1) := by decide +kernel
theorem dX12_takers_2 : decode cX12_takers 2 = .ok (.invokevirtual 189, 3) := by decide +kernel
theorem dX12_takers_5 : decode cX12_takers 5 = .ok (.astore_n 2, 1) := by decide +kernel
theorem dX12_takers_6 : decode cX12_takers 6 = .ok (.aload_n 2, 1) := by decide +kernel
theorem dX12_takers_7 : decode cX12_takers 7 = .ok (.ifnull 11, 3) := by decide +kernel
theorem dX12_takers_10 : decode cX12_takers 10 = .ok (.aload_n 0, 1) := by decide +kernel
theorem dX12_takers_11 : decode cX12_takers 11 = .ok (.aload_n 2, 1) := by decide +kernel
theorem dX12_takers_12 : decode cX12_takers 12 = .ok (.invokevirtual 405, 3) := by decide +kernel
theorem dX12_takers_15 : decode cX12_takers 15 = .ok (.ifCond .ne 5, 3) := by decide +kernel
theorem dX12_takers_18 : decode cX12_takers 18 = .ok (.iconst (-1), 1) := by decide +kernel
theorem dX12_takers_19 : decode cX12_takers 19 = .ok (.ireturn, 1) := by decide +kernel
theorem dX12_takers_20 : decode cX12_takers 20 = .ok (.iconst 0, 1) := by decide +kernel
theorem dX12_takers_21 : decode cX12_takers 21 = .ok (.istore_n 3, 1) := by decide +kernel
theorem dX12_takers_22 : decode cX12_takers 22 = .ok (.iconst 0, 1) := by decide +kernel
theorem dX12_takers_23 : decode cX12_takers 23 = .ok (.istore 4, 2) := by decide +kernel
theorem dX12_takers_25 : decode cX12_takers 25 = .ok (.iload 4, 2) := by decide +kernel
theorem dX12_takers_27 : decode cX12_takers 27 = .ok (.aload_n 0, 1) := by decide +kernel
theorem dX12_takers_28 : decode cX12_takers 28 = .ok (.getfield 292, 3) := by decide +kernel
theorem dX12_takers_31 : decode cX12_takers 31 = .ok (.if_icmp .ge 26, 3) := by decide +kernel
theorem dX12_takers_34 : decode cX12_takers 34 = .ok (.aload_n 0, 1) := by decide +kernel
theorem dX12_takers_35 : decode cX12_takers 35 = .ok (.aload_n 2, 1) := by decide +kernel
theorem dX12_takers_36 : decode cX12_takers 36 = .ok (.iload 4, 2) := by decide +kernel
theorem dX12_takers_38 : decode cX12_takers 38 = .ok (.invokevirtual 309, 3) := by decide +kernel
theorem dX12_takers_41 : decode cX12_takers 41 = .ok (.ifCond .eq 10, 3) := by decide +kernel
theorem dX12_takers_44 : decode cX12_takers 44 = .ok (.iload_n 3, 1) := by decide +kernel
theorem dX12_takers_45 : decode cX12_takers 45 = .ok (.iconst 1, 1) := by decide +kernel
theorem dX12_takers_46 : decode cX12_takers 46 = .ok (.iload 4, 2) := by decide +kernel
theorem dX12_takers_48 : decode cX12_takers 48 = .ok (.ishl, 1) := by decide +kernel
theorem dX12_takers_49 : decode cX12_takers 49 = .ok (.ior, 1) := by decide +kernel
theorem dX12_takers_50 : decode cX12_takers 50 = .ok (.istore_n 3, 1) := by decide +kernel
theorem dX12_takers_51 : decode cX12_takers 51 = .ok (.iinc 4 1, 3) := by decide +kernel
theorem dX12_takers_54 : decode cX12_takers 54 = .ok (.goto (-29), 3) := by decide +kernel
theorem dX12_takers_57 : decode cX12_takers 57 = .ok (.iload_n 3, 1) := by decide +kernel
theorem dX12_takers_58 : decode cX12_takers 58 = .ok (.ireturn, 1) := by decide +kernel
set_option maxRecDepth 20000 in
theorem ggX12_tell_X5_addFact : GoodIn wsX12_tell wsX5_addFact := goodIn_r _ [7, 8, 9, 10, 11, 12, 13, 34, 35, 36, 37, 38, 39, 40, 41, 42, 43, 44, 45] (by decide +kernel) (by decide +kernel)
set_option maxRecDepth 20000 in
theorem gX12_tell_X5_addFact : GoodIn wsX12_tell (wsV RX12 408 RX5 yX5_addFact wsX5_addFact) := goodIn_app (goodIn_of _ (by decide +kernel)) ggX12_tell_X5_addFact
theorem dX12_tell_0 : decode cX12_tell 0 = .ok (.iload_n 1, 1) := by decide +kernel
theorem dX12_tell_1 : decode cX12_tell 1 = .ok (.ifCond .lt 28, 3) := by decide +kernel
theorem dX12_tell_4 : decode cX12_tell 4 = .ok (.iload_n 1, 1) := by decide +kernel
theorem dX12_tell_5 : decode cX12_tell 5 = .ok (.bipush 40, 2) := by decide +kernel
theorem dX12_tell_7 : decode cX12_tell 7 = .ok (.if_icmp .ge 22, 3) := by decide +kernel
theorem dX12_tell_10 : decode cX12_tell 10 = .ok (.iload_n 2, 1) := by decide +kernel
theorem dX12_tell_11 : decode cX12_tell 11 = .ok (.ifCond .lt 18, 3) := by decide +kernel
theorem dX12_tell_14 : decode cX12_tell 14 = .ok (.iload_n 2, 1) := by decide +kernel
theorem dX12_tell_15 : decode cX12_tell 15 = .ok (.sipush 999, 3) := by decide +kernel
theorem dX12_tell_18 : decode cX12_tell 18 = .ok (.if_icmp .gt 11, 3) := by decide +kernel
theorem dX12_tell_21 : decode cX12_tell 21 = .ok (.iload_n 3, 1) := by decide +kernel
theorem dX12_tell_22 : decode cX12_tell 22 = .ok (.ifCond .lt 7, 3) := by decide +kernel
theorem dX12_tell_25 : decode cX12_tell 25 = .ok (.iconst 1, 1) := by decide +kernel
theorem dX12_tell_26 : decode cX12_tell 26 = .ok (.goto 4, 3) := by decide +kernel
theorem dX12_tell_29 : decode cX12_tell 29 = .ok (.iconst 0, 1) := by decide +kernel
theorem dX12_tell_30 : decode cX12_tell 30 = .ok (.istore 4, 2) := by decide +kernel
theorem dX12_tell_32 : decode cX12_tell 32 = .ok (.iload 4, 2) := by decide +kernel
theorem dX12_tell_34 : decode cX12_tell 34 = .ok (.ifCond .eq 24, 3) := by decide +kernel
theorem dX12_tell_37 : decode cX12_tell 37 = .ok (.aload_n 0, 1) := by decide +kernel
theorem dX12_tell_38 : decode cX12_tell 38 = .ok (.getfield 66, 3) := by decide +kernel
theorem dX12_tell_41 : decode cX12_tell 41 = .ok (.iload_n 1, 1) := by decide +kernel
theorem dX12_tell_42 : decode cX12_tell 42 = .ok (.iload_n 2, 1) := by decide +kernel
theorem dX12_tell_43 : decode cX12_tell 43 = .ok (.iload_n 3, 1) := by decide +kernel
theorem dX12_tell_44 : decode cX12_tell 44 = .ok (.aload_n 0, 1) := by decide +kernel
theorem dX12_tell_45 : decode cX12_tell 45 = .ok (.getfield 133, 3) := by decide +kernel
theorem dX12_tell_48 : decode cX12_tell 48 = .ok (.invokevirtual 408, 3) := by decide +kernel
theorem dX12_tell_51 : decode cX12_tell 51 = .ok (.ifCond .eq 7, 3) := by decide +kernel
theorem dX12_tell_54 : decode cX12_tell 54 = .ok (.iconst 1, 1) := by decide +kernel
theorem dX12_tell_55 : decode cX12_tell 55 = .ok (.goto 4, 3) := by decide +kernel
theorem dX12_tell_58 : decode cX12_tell 58 = .ok (.iconst 0, 1) := by decide +kernel
theorem dX12_tell_59 : decode cX12_tell 59 = .ok (.ireturn, 1) := by decide +kernel
set_option maxRecDepth 20000 in
theorem ggX12_known_X5_valueOn : GoodIn wsX12_known wsX5_valueOn := goodIn_r _ [6, 7, 8, 9, 10, 5, 11, 12, 13, 14, 40, 41, 42, 43, 44, 45, 46, 47, 48, 49, 50, 51] (by decide +kernel) (by decide +kernel)
set_option maxRecDepth 20000 in
theorem gX12_known_X5_valueOn : GoodIn wsX12_known (wsV RX12 389 RX5 yX5_valueOn wsX5_valueOn) := goodIn_app (goodIn_of _ (by decide +kernel)) ggX12_known_X5_valueOn
set_option maxRecDepth 20000 in
theorem ggX12_known_X5_sourceOn : GoodIn wsX12_known wsX5_sourceOn := goodIn_r _ [18, 19, 8, 9, 10, 5, 11, 12, 13, 14, 40, 41, 42, 43, 44, 45, 46, 47, 48, 49, 50, 51] (by decide +kernel) (by decide +kernel)
set_option maxRecDepth 20000 in
theorem gX12_known_X5_sourceOn : GoodIn wsX12_known (wsV RX12 412 RX5 yX5_sourceOn wsX5_sourceOn) := goodIn_app (goodIn_of _ (by decide +kernel)) ggX12_known_X5_sourceOn
theorem dX12_known_0 : decode cX12_known 0 = .ok (.iload_n 2, 1) := by decide +kernel
theorem dX12_known_1 : decode cX12_known 1 = .ok (.ifCond .lt 10, 3) := by decide +kernel
theorem dX12_known_4 : decode cX12_known 4 = .ok (.iload_n 2, 1) := by decide +kernel
theorem dX12_known_5 : decode cX12_known 5 = .ok (.sipush 2000, 3) := by decide +kernel
theorem dX12_known_8 : decode cX12_known 8 = .ok (.if_icmp .le 5, 3) := by decide +kernel
theorem dX12_known_11 : decode cX12_known 11 = .ok (.iconst (-1), 1) := by decide +kernel
theorem dX12_known_12 : decode cX12_known 12 = .ok (.ireturn, 1) := by decide +kernel
theorem dX12_known_13 : decode cX12_known 13 = .ok (.iload_n 3, 1) := by decide +kernel
theorem dX12_known_14 : decode cX12_known 14 = .ok (.ifCond .ne 13, 3) := by decide +kernel
theorem dX12_known_17 : decode cX12_known 17 = .ok (.aload_n 0, 1) := by decide +kernel
theorem dX12_known_18 : decode cX12_known 18 = .ok (.getfield 66, 3) := by decide +kernel
theorem dX12_known_21 : decode cX12_known 21 = .ok (.iload_n 1, 1) := by decide +kernel
theorem dX12_known_22 : decode cX12_known 22 = .ok (.iload_n 2, 1) := by decide +kernel
theorem dX12_known_23 : decode cX12_known 23 = .ok (.invokevirtual 389, 3) := by decide +kernel
theorem dX12_known_26 : decode cX12_known 26 = .ok (.ireturn, 1) := by decide +kernel
theorem dX12_known_27 : decode cX12_known 27 = .ok (.iload_n 3, 1) := by decide +kernel
theorem dX12_known_28 : decode cX12_known 28 = .ok (.iconst 1, 1) := by decide +kernel
theorem dX12_known_29 : decode cX12_known 29 = .ok (.if_icmp .ne 15, 3) := by decide +kernel
theorem dX12_known_32 : decode cX12_known 32 = .ok (.aload_n 0, 1) := by decide +kernel
theorem dX12_known_33 : decode cX12_known 33 = .ok (.getfield 66, 3) := by decide +kernel
theorem dX12_known_36 : decode cX12_known 36 = .ok (.iload_n 1, 1) := by decide +kernel
theorem dX12_known_37 : decode cX12_known 37 = .ok (.iload_n 2, 1) := by decide +kernel
theorem dX12_known_38 : decode cX12_known 38 = .ok (.invokevirtual 412, 3) := by decide +kernel
theorem dX12_known_41 : decode cX12_known 41 = .ok (.goto 4, 3) := by decide +kernel
theorem dX12_known_44 : decode cX12_known 44 = .ok (.iconst (-1), 1) := by decide +kernel
theorem dX12_known_45 : decode cX12_known 45 = .ok (.ireturn, 1) := by decide +kernel
set_option maxRecDepth 20000 in
theorem ggX12_stale_X12_lineAt : GoodIn wsX12_stale wsX12_lineAt := goodIn_r _ [5, 6, 7, 38, 39, 40, 41, 42, 43, 44, 45, 46, 47, 48, 49, 50, 51, 52, 53, 54, 55, 56, 57] (by decide +kernel) (by decide +kernel)
set_option maxRecDepth 20000 in
theorem gX12_stale_X12_lineAt : GoodIn wsX12_stale (wsV RX12 392 RX12 yX12_lineAt wsX12_lineAt) := goodIn_app (goodIn_of _ (by decide +kernel)) ggX12_stale_X12_lineAt
set_option maxRecDepth 20000 in
theorem ggX12_stale_X12_isStale : GoodIn wsX12_stale wsX12_isStale := goodIn_r _ [11, 12, 13, 14, 15, 1, 2, 3, 4, 5, 6, 7, 16, 17, 18, 19, 20, 21, 22, 23, 24, 25, 26, 27, 28, 29, 30, 31, 32, 33, 34, 35, 36, 37, 58, 59, 60, 61, 62, 63, 64, 65, 66, 38, 39, 40, 41, 42, 43, 44, 45, 46, 47, 48, 49, 50, 51, 52, 53, 54, 55, 56, 57, 67, 68, 69, 70, 71, 72, 73, 74, 75, 76, 77, 78] (by decide +kernel) (by decide +kernel)
set_option maxRecDepth 20000 in
theorem gX12_stale_X12_isStale : GoodIn wsX12_stale (wsV RX12 415 RX12 yX12_isStale wsX12_isStale) := goodIn_app (goodIn_of _ (by decide +kernel)) ggX12_stale_X12_isStale
theorem dX12_stale_0 : decode cX12_stale 0 = .ok (.aload_n 0, 1) := by decide +kernel
theorem dX12_stale_1 : decode cX12_stale 1 = .ok (.iload_n 1, 1) := by decide +kernel
theorem dX12_stale_2 : decode cX12_stale 2 = .ok (.invokevirtual 392, 3) := by decide +kernel
theorem dX12_stale_5 : decode cX12_stale 5 = .ok (.astore_n 3, 1) := by decide +kernel
theorem dX12_stale_6 : decode cX12_stale 6 = .ok (.aload_n 3, 1) := by decide +kernel
theorem dX12_stale_7 : decode cX12_stale 7 = .ok (.ifnull 27, 3) := by decide +kernel
theorem dX12_stale_10 : decode cX12_stale 10 = .ok (.iload_n 2, 1) := by decide +kernel
theorem dX12_stale_11 : decode cX12_stale 11 = .ok (.ifCond .lt 23, 3) := by decide +kernel
theorem dX12_stale_14 : decode cX12_stale 14 = .ok (.iload_n 2, 1) := by decide +kernel
theorem dX12_stale_15 : decode cX12_stale 15 = .ok (.sipush 2000, 3) := by decide +kernel
theorem dX12_stale_18 : decode cX12_stale 18 = .ok (.if_icmp .gt 16, 3) := by decide +kernel
theorem dX12_stale_21 : decode cX12_stale 21 = .ok (.aload_n 0, 1) := by decide +kernel
theorem dX12_stale_22 : decode cX12_stale 22 = .ok (.aload_n 3, 1) := by decide +kernel
theorem dX12_stale_23 : decode cX12_stale 23 = .ok (.iload_n 2, 1) := by decide +kernel
theorem dX12_stale_24 : decode cX12_stale 24 = .ok (.invokevirtual 415, 3) := by decide +kernel
theorem dX12_stale_27 : decode cX12_stale 27 = .ok (.ifCond .eq 7, 3) := by decide +kernel
theorem dX12_stale_30 : decode cX12_stale 30 = .ok (.iconst 1, 1) := by decide +kernel
theorem dX12_stale_31 : decode cX12_stale 31 = .ok (.goto 4, 3) := by decide +kernel
theorem dX12_stale_34 : decode cX12_stale 34 = .ok (.iconst 0, 1) := by decide +kernel
theorem dX12_stale_35 : decode cX12_stale 35 = .ok (.ireturn, 1) := by decide +kernel
set_option maxRecDepth 20000 in
theorem ggX12_isStale_X12_lineAt : GoodIn wsX12_isStale wsX12_lineAt := goodIn_r _ [9, 10, 11, 43, 44, 45, 46, 47, 48, 49, 50, 51, 52, 53, 54, 55, 56, 57, 58, 59, 60, 61, 62] (by decide +kernel) (by decide +kernel)
set_option maxRecDepth 20000 in
theorem gX12_isStale_X12_lineAt : GoodIn wsX12_isStale (wsV RX12 392 RX12 yX12_lineAt wsX12_lineAt) := goodIn_app (goodIn_of _ (by decide +kernel)) ggX12_isStale_X12_lineAt
set_option maxRecDepth 20000 in
theorem ggX12_isStale_X5_valueOn : GoodIn wsX12_isStale wsX5_valueOn := goodIn_r _ [16, 17, 18, 19, 20, 15, 21, 22, 23, 24, 63, 64, 65, 66, 67, 68, 69, 70, 71, 72, 73, 74] (by decide +kernel) (by decide +kernel)
set_option maxRecDepth 20000 in
theorem gX12_isStale_X5_valueOn : GoodIn wsX12_isStale (wsV RX12 389 RX5 yX5_valueOn wsX5_valueOn) := goodIn_app (goodIn_of _ (by decide +kernel)) ggX12_isStale_X5_valueOn
set_option maxRecDepth 20000 in
theorem ggX12_isStale_X5_keptOn : GoodIn wsX12_isStale wsX5_keptOn := goodIn_r _ [28, 29, 30, 31, 32, 33, 63, 64, 65, 66, 67, 68, 69, 70, 71, 72, 73, 74] (by decide +kernel) (by decide +kernel)
set_option maxRecDepth 20000 in
theorem gX12_isStale_X5_keptOn : GoodIn wsX12_isStale (wsV RX12 419 RX5 yX5_keptOn wsX5_keptOn) := goodIn_app (goodIn_of _ (by decide +kernel)) ggX12_isStale_X5_keptOn
theorem dX12_isStale_0 : decode cX12_isStale 0 = .ok (.aload_n 0, 1) := by decide +kernel
theorem dX12_isStale_1 : decode cX12_isStale 1 = .ok (.aload_n 1, 1) := by decide +kernel
theorem dX12_isStale_2 : decode cX12_isStale 2 = .ok (.getfield 396, 3) := by decide +kernel
theorem dX12_isStale_5 : decode cX12_isStale 5 = .ok (.invokevirtual 392, 3) := by decide +kernel
theorem dX12_isStale_8 : decode cX12_isStale 8 = .ok (.astore_n 3, 1) := by decide +kernel
theorem dX12_isStale_9 : decode cX12_isStale 9 = .ok (.aload_n 3, 1) := by decide +kernel
theorem dX12_isStale_10 : decode cX12_isStale 10 = .ok (.ifnonnull 5, 3) := by decide +kernel
theorem dX12_isStale_13 : decode cX12_isStale 13 = .ok (.iconst 0, 1) := by decide +kernel
theorem dX12_isStale_14 : decode cX12_isStale 14 = .ok (.ireturn, 1) := by decide +kernel
theorem dX12_isStale_15 : decode cX12_isStale 15 = .ok (.aload_n 0, 1) := by decide +kernel
theorem dX12_isStale_16 : decode cX12_isStale 16 = .ok (.getfield 66, 3) := by decide +kernel
theorem dX12_isStale_19 : decode cX12_isStale 19 = .ok (.aload_n 3, 1) := by decide +kernel
theorem dX12_isStale_20 : decode cX12_isStale 20 = .ok (.getfield 385, 3) := by decide +kernel
theorem dX12_isStale_23 : decode cX12_isStale 23 = .ok (.iload_n 2, 1) := by decide +kernel
theorem dX12_isStale_24 : decode cX12_isStale 24 = .ok (.invokevirtual 389, 3) := by decide +kernel
theorem dX12_isStale_27 : decode cX12_isStale 27 = .ok (.aload_n 0, 1) := by decide +kernel
theorem dX12_isStale_28 : decode cX12_isStale 28 = .ok (.getfield 66, 3) := by decide +kernel
theorem dX12_isStale_31 : decode cX12_isStale 31 = .ok (.aload_n 1, 1) := by decide +kernel
theorem dX12_isStale_32 : decode cX12_isStale 32 = .ok (.getfield 396, 3) := by decide +kernel
theorem dX12_isStale_35 : decode cX12_isStale 35 = .ok (.aload_n 3, 1) := by decide +kernel
theorem dX12_isStale_36 : decode cX12_isStale 36 = .ok (.getfield 399, 3) := by decide +kernel
theorem dX12_isStale_39 : decode cX12_isStale 39 = .ok (.iload_n 2, 1) := by decide +kernel
theorem dX12_isStale_40 : decode cX12_isStale 40 = .ok (.invokevirtual 419, 3) := by decide +kernel
theorem dX12_isStale_43 : decode cX12_isStale 43 = .ok (.if_icmp .eq 7, 3) := by decide +kernel
theorem dX12_isStale_46 : decode cX12_isStale 46 = .ok (.iconst 1, 1) := by decide +kernel
theorem dX12_isStale_47 : decode cX12_isStale 47 = .ok (.goto 4, 3) := by decide +kernel
theorem dX12_isStale_50 : decode cX12_isStale 50 = .ok (.iconst 0, 1) := by decide +kernel
theorem dX12_isStale_51 : decode cX12_isStale 51 = .ok (.ireturn, 1) := by decide +kernel
set_option maxRecDepth 20000 in
theorem ggX12_stales_X12_entryAt : GoodIn wsX12_stales wsX12_entryAt := goodIn_r _ [8, 9, 10, 46, 47, 48, 49, 50, 51, 52, 53, 54, 55, 56, 57, 58, 59, 60, 61, 62, 63, 64, 65] (by decide +kernel) (by decide +kernel)
set_option maxRecDepth 20000 in
theorem gX12_stales_X12_entryAt : GoodIn wsX12_stales (wsV RX12 189 RX12 yX12_entryAt wsX12_entryAt) := goodIn_app (goodIn_of _ (by decide +kernel)) ggX12_stales_X12_entryAt
set_option maxRecDepth 20000 in
theorem ggX12_stales_X12_lineAt : GoodIn wsX12_stales wsX12_lineAt := goodIn_r _ [14, 1, 15, 46, 47, 48, 49, 50, 51, 52, 53, 54, 55, 56, 57, 58, 59, 60, 61, 62, 63, 64, 65] (by decide +kernel) (by decide +kernel)
set_option maxRecDepth 20000 in
theorem gX12_stales_X12_lineAt : GoodIn wsX12_stales (wsV RX12 392 RX12 yX12_lineAt wsX12_lineAt) := goodIn_app (goodIn_of _ (by decide +kernel)) ggX12_stales_X12_lineAt
set_option maxRecDepth 20000 in
theorem ggX12_stales_X12_isStale : GoodIn wsX12_stales wsX12_isStale := goodIn_r _ [19, 20, 21, 22, 23, 11, 12, 13, 7, 14, 1, 15, 24, 25, 26, 27, 28, 29, 30, 31, 32, 33, 34, 35, 36, 37, 38, 39, 40, 41, 42, 43, 44, 45, 66, 67, 68, 69, 70, 71, 72, 73, 74, 46, 47, 48, 49, 50, 51, 52, 53, 54, 55, 56, 57, 58, 59, 60, 61, 62, 63, 64, 65, 75, 76, 77, 78, 79, 80, 81, 82, 83, 84, 85, 86] (by decide +kernel) (by decide +kernel)
set_option maxRecDepth 20000 in
theorem gX12_stales_X12_isStale : GoodIn wsX12_stales (wsV RX12 415 RX12 yX12_isStale wsX12_isStale) := goodIn_app (goodIn_of _ (by decide +kernel)) ggX12_stales_X12_isStale
theorem dX12_stales_0 : decode cX12_stales 0 = .ok (.aload_n 0, 1) := by decide +kernel
theorem dX12_stales_1 : decode cX12_stales 1 = .ok (.iload_n 1, 1) := by decide +kernel
theorem dX12_stales_2 : decode cX12_stales 2 = .ok (.invokevirtual 189, 3) := by decide +kernel
theorem dX12_stales_5 : decode cX12_stales 5 = .ok (.ifnonnull 5, 3) := by decide +kernel
theorem dX12_stales_8 : decode cX12_stales 8 = .ok (.iconst (-1), 1) := by decide +kernel
theorem dX12_stales_9 : decode cX12_stales 9 = .ok (.ireturn, 1) := by decide +kernel
theorem dX12_stales_10 : decode cX12_stales 10 = .ok (.iconst 0, 1) := by decide +kernel
theorem dX12_stales_11 : decode cX12_stales 11 = .ok (.istore_n 2, 1) := by decide +kernel
theorem dX12_stales_12 : decode cX12_stales 12 = .ok (.iconst 0, 1) := by decide +kernel
theorem dX12_stales_13 : decode cX12_stales 13 = .ok (.istore_n 3, 1) := by decide +kernel
theorem dX12_stales_14 : decode cX12_stales 14 = .ok (.iload_n 3, 1) := by decide +kernel
theorem dX12_stales_15 : decode cX12_stales 15 = .ok (.aload_n 0, 1) := by decide +kernel
theorem dX12_stales_16 : decode cX12_stales 16 = .ok (.getfield 370, 3) := by decide +kernel
theorem dX12_stales_19 : decode cX12_stales 19 = .ok (.if_icmp .ge 46, 3) := by decide +kernel
theorem dX12_stales_22 : decode cX12_stales 22 = .ok (.aload_n 0, 1) := by decide +kernel
theorem dX12_stales_23 : decode cX12_stales 23 = .ok (.iload_n 3, 1) := by decide +kernel
theorem dX12_stales_24 : decode cX12_stales 24 = .ok (.invokevirtual 392, 3) := by decide +kernel
theorem dX12_stales_27 : decode cX12_stales 27 = .ok (.astore 4, 2) := by decide +kernel
theorem dX12_stales_29 : decode cX12_stales 29 = .ok (.aload 4, 2) := by decide +kernel
theorem dX12_stales_31 : decode cX12_stales 31 = .ok (.ifnull 28, 3) := by decide +kernel
theorem dX12_stales_34 : decode cX12_stales 34 = .ok (.aload 4, 2) := by decide +kernel
theorem dX12_stales_36 : decode cX12_stales 36 = .ok (.getfield 422, 3) := by decide +kernel
theorem dX12_stales_39 : decode cX12_stales 39 = .ok (.iload_n 1, 1) := by decide +kernel
theorem dX12_stales_40 : decode cX12_stales 40 = .ok (.if_icmp .ne 19, 3) := by decide +kernel
theorem dX12_stales_43 : decode cX12_stales 43 = .ok (.aload_n 0, 1) := by decide +kernel
theorem dX12_stales_44 : decode cX12_stales 44 = .ok (.aload 4, 2) := by decide +kernel
theorem dX12_stales_46 : decode cX12_stales 46 = .ok (.aload_n 0, 1) := by decide +kernel
theorem dX12_stales_47 : decode cX12_stales 47 = .ok (.getfield 133, 3) := by decide +kernel
theorem dX12_stales_50 : decode cX12_stales 50 = .ok (.invokevirtual 415, 3) := by decide +kernel
theorem dX12_stales_53 : decode cX12_stales 53 = .ok (.ifCond .eq 6, 3) := by decide +kernel
theorem dX12_stales_56 : decode cX12_stales 56 = .ok (.iinc 2 1, 3) := by decide +kernel
theorem dX12_stales_59 : decode cX12_stales 59 = .ok (.iinc 3 1, 3) := by decide +kernel
theorem dX12_stales_62 : decode cX12_stales 62 = .ok (.goto (-48), 3) := by decide +kernel
theorem dX12_stales_65 : decode cX12_stales 65 = .ok (.iload_n 2, 1) := by decide +kernel
theorem dX12_stales_66 : decode cX12_stales 66 = .ok (.ireturn, 1) := by decide +kernel
set_option maxRecDepth 20000 in
theorem ggX12_isSetLine_X12_entryAt : GoodIn wsX12_isSetLine wsX12_entryAt := goodIn_r _ [7, 8, 9, 37, 38, 39, 40, 41, 42, 43, 44, 45, 46, 47, 48, 49, 50, 51, 52, 53, 54, 55, 56] (by decide +kernel) (by decide +kernel)
set_option maxRecDepth 20000 in
theorem gX12_isSetLine_X12_entryAt : GoodIn wsX12_isSetLine (wsV RX12 189 RX12 yX12_entryAt wsX12_entryAt) := goodIn_app (goodIn_of _ (by decide +kernel)) ggX12_isSetLine_X12_entryAt
theorem dX12_isSetLine_0 : decode cX12_isSetLine 0 = .ok (.aload_n 0, 1) := by decide +kernel
theorem dX12_isSetLine_1 : decode cX12_isSetLine 1 = .ok (.aload_n 1, 1) := by decide +kernel
theorem dX12_isSetLine_2 : decode cX12_isSetLine 2 = .ok (.getfield 422, 3) := by decide +kernel
theorem dX12_isSetLine_5 : decode cX12_isSetLine 5 = .ok (.invokevirtual 189, 3) := by decide +kernel
theorem dX12_isSetLine_8 : decode cX12_isSetLine 8 = .ok (.astore_n 2, 1) := by decide +kernel
theorem dX12_isSetLine_9 : decode cX12_isSetLine 9 = .ok (.aload_n 2, 1) := by decide +kernel
theorem dX12_isSetLine_10 : decode cX12_isSetLine 10 = .ok (.ifnull 15, 3) := by decide +kernel
theorem dX12_isSetLine_13 : decode cX12_isSetLine 13 = .ok (.aload_n 2, 1) := by decide +kernel
theorem dX12_isSetLine_14 : decode cX12_isSetLine 14 = .ok (.getfield 247, 3) := by decide +kernel
theorem dX12_isSetLine_17 : decode cX12_isSetLine 17 = .ok (.iconst (-1), 1) := by decide +kernel
theorem dX12_isSetLine_18 : decode cX12_isSetLine 18 = .ok (.if_icmp .eq 7, 3) := by decide +kernel
theorem dX12_isSetLine_21 : decode cX12_isSetLine 21 = .ok (.iconst 1, 1) := by decide +kernel
theorem dX12_isSetLine_22 : decode cX12_isSetLine 22 = .ok (.goto 4, 3) := by decide +kernel
theorem dX12_isSetLine_25 : decode cX12_isSetLine 25 = .ok (.iconst 0, 1) := by decide +kernel
theorem dX12_isSetLine_26 : decode cX12_isSetLine 26 = .ok (.ireturn, 1) := by decide +kernel
set_option maxRecDepth 20000 in
theorem ggX12_mend_X12_lineAt : GoodIn wsX12_mend wsX12_lineAt := goodIn_r _ [9, 10, 11, 46, 47, 48, 49, 50, 51, 52, 53, 54, 55, 56, 57, 58, 59, 60, 61, 62, 63, 64, 65] (by decide +kernel) (by decide +kernel)
set_option maxRecDepth 20000 in
theorem gX12_mend_X12_lineAt : GoodIn wsX12_mend (wsV RX12 392 RX12 yX12_lineAt wsX12_lineAt) := goodIn_app (goodIn_of _ (by decide +kernel)) ggX12_mend_X12_lineAt
set_option maxRecDepth 20000 in
theorem ggX12_mend_X12_isSetLine : GoodIn wsX12_mend wsX12_isSetLine := goodIn_r _ [15, 16, 17, 18, 19, 20, 8, 21, 22, 23, 37, 38, 39, 40, 41, 42, 43, 44, 45, 66, 67, 68, 69, 70, 71, 72, 73, 74, 75, 76, 77, 78, 79, 80, 81, 82, 83, 46, 47, 48, 49, 50, 51, 52, 53, 54, 55, 56, 57, 58, 59, 60, 61, 62, 63, 64, 65] (by decide +kernel) (by decide +kernel)
set_option maxRecDepth 20000 in
theorem gX12_mend_X12_isSetLine : GoodIn wsX12_mend (wsV RX12 425 RX12 yX12_isSetLine wsX12_isSetLine) := goodIn_app (goodIn_of _ (by decide +kernel)) ggX12_mend_X12_isSetLine
set_option maxRecDepth 20000 in
theorem ggX12_mend_X5_valueOn : GoodIn wsX12_mend wsX5_valueOn := goodIn_r _ [28, 29, 30, 31, 32, 27, 33, 34, 35, 36, 84, 85, 86, 87, 88, 89, 90, 91, 92, 93, 94, 95] (by decide +kernel) (by decide +kernel)
set_option maxRecDepth 20000 in
theorem gX12_mend_X5_valueOn : GoodIn wsX12_mend (wsV RX12 389 RX5 yX5_valueOn wsX5_valueOn) := goodIn_app (goodIn_of _ (by decide +kernel)) ggX12_mend_X5_valueOn
theorem dX12_mend_0 : decode cX12_mend 0 = .ok (.aload_n 0, 1) := by decide +kernel
theorem dX12_mend_1 : decode cX12_mend 1 = .ok (.iload_n 1, 1) := by decide +kernel
theorem dX12_mend_2 : decode cX12_mend 2 = .ok (.invokevirtual 392, 3) := by decide +kernel
theorem dX12_mend_5 : decode cX12_mend 5 = .ok (.astore_n 2, 1) := by decide +kernel
theorem dX12_mend_6 : decode cX12_mend 6 = .ok (.aload_n 2, 1) := by decide +kernel
theorem dX12_mend_7 : decode cX12_mend 7 = .ok (.ifnull 19, 3) := by decide +kernel
theorem dX12_mend_10 : decode cX12_mend 10 = .ok (.aload_n 2, 1) := by decide +kernel
theorem dX12_mend_11 : decode cX12_mend 11 = .ok (.getfield 385, 3) := by decide +kernel
theorem dX12_mend_14 : decode cX12_mend 14 = .ok (.iconst (-1), 1) := by decide +kernel
theorem dX12_mend_15 : decode cX12_mend 15 = .ok (.if_icmp .eq 11, 3) := by decide +kernel
theorem dX12_mend_18 : decode cX12_mend 18 = .ok (.aload_n 0, 1) := by decide +kernel
theorem dX12_mend_19 : decode cX12_mend 19 = .ok (.aload_n 2, 1) := by decide +kernel
theorem dX12_mend_20 : decode cX12_mend 20 = .ok (.invokevirtual 425, 3) := by decide +kernel
theorem dX12_mend_23 : decode cX12_mend 23 = .ok (.ifCond .eq 5, 3) := by decide +kernel
theorem dX12_mend_26 : decode cX12_mend 26 = .ok (.iconst (-1), 1) := by decide +kernel
theorem dX12_mend_27 : decode cX12_mend 27 = .ok (.ireturn, 1) := by decide +kernel
theorem dX12_mend_28 : decode cX12_mend 28 = .ok (.aload_n 2, 1) := by decide +kernel
theorem dX12_mend_29 : decode cX12_mend 29 = .ok (.aload_n 0, 1) := by decide +kernel
theorem dX12_mend_30 : decode cX12_mend 30 = .ok (.getfield 66, 3) := by decide +kernel
theorem dX12_mend_33 : decode cX12_mend 33 = .ok (.aload_n 2, 1) := by decide +kernel
theorem dX12_mend_34 : decode cX12_mend 34 = .ok (.getfield 385, 3) := by decide +kernel
theorem dX12_mend_37 : decode cX12_mend 37 = .ok (.aload_n 0, 1) := by decide +kernel
theorem dX12_mend_38 : decode cX12_mend 38 = .ok (.getfield 133, 3) := by decide +kernel
theorem dX12_mend_41 : decode cX12_mend 41 = .ok (.invokevirtual 389, 3) := by decide +kernel
theorem dX12_mend_44 : decode cX12_mend 44 = .ok (.putfield 399, 3) := by decide +kernel
theorem dX12_mend_47 : decode cX12_mend 47 = .ok (.aload_n 2, 1) := by decide +kernel
theorem dX12_mend_48 : decode cX12_mend 48 = .ok (.getfield 399, 3) := by decide +kernel
theorem dX12_mend_51 : decode cX12_mend 51 = .ok (.ireturn, 1) := by decide +kernel
set_option maxRecDepth 20000 in
theorem ggX12_erratum_X12_lineAt : GoodIn wsX12_erratum wsX12_lineAt := goodIn_r _ [9, 10, 11, 48, 49, 50, 51, 52, 53, 54, 55, 56, 57, 58, 59, 60, 61, 62, 63, 64, 65, 66, 67] (by decide +kernel) (by decide +kernel)
set_option maxRecDepth 20000 in
theorem gX12_erratum_X12_lineAt : GoodIn wsX12_erratum (wsV RX12 392 RX12 yX12_lineAt wsX12_lineAt) := goodIn_app (goodIn_of _ (by decide +kernel)) ggX12_erratum_X12_lineAt
set_option maxRecDepth 20000 in
theorem ggX12_erratum_X12_isSetLine : GoodIn wsX12_erratum wsX12_isSetLine := goodIn_r _ [15, 16, 17, 18, 19, 20, 8, 21, 22, 23, 39, 40, 41, 42, 43, 44, 45, 46, 47, 68, 69, 70, 71, 72, 73, 74, 75, 76, 77, 78, 79, 80, 81, 82, 83, 84, 85, 48, 49, 50, 51, 52, 53, 54, 55, 56, 57, 58, 59, 60, 61, 62, 63, 64, 65, 66, 67] (by decide +kernel) (by decide +kernel)
set_option maxRecDepth 20000 in
theorem gX12_erratum_X12_isSetLine : GoodIn wsX12_erratum (wsV RX12 425 RX12 yX12_isSetLine wsX12_isSetLine) := goodIn_app (goodIn_of _ (by decide +kernel)) ggX12_erratum_X12_isSetLine
set_option maxRecDepth 20000 in
theorem ggX12_erratum_X5_keptOn : GoodIn wsX12_erratum wsX5_keptOn := goodIn_r _ [28, 29, 30, 31, 32, 33, 86, 87, 88, 89, 90, 91, 92, 93, 94, 95, 96, 97] (by decide +kernel) (by decide +kernel)
set_option maxRecDepth 20000 in
theorem gX12_erratum_X5_keptOn : GoodIn wsX12_erratum (wsV RX12 419 RX5 yX5_keptOn wsX5_keptOn) := goodIn_app (goodIn_of _ (by decide +kernel)) ggX12_erratum_X5_keptOn
set_option maxRecDepth 20000 in
theorem ggX12_erratum_X5_addErratum : GoodIn wsX12_erratum wsX5_addErratum := goodIn_r _ [37, 29, 30, 32, 33, 31, 38, 86, 87, 88, 89, 90, 91, 92, 93, 94, 95, 96, 97] (by decide +kernel) (by decide +kernel)
set_option maxRecDepth 20000 in
theorem gX12_erratum_X5_addErratum : GoodIn wsX12_erratum (wsV RX12 429 RX5 yX5_addErratum wsX5_addErratum) := goodIn_app (goodIn_of _ (by decide +kernel)) ggX12_erratum_X5_addErratum
theorem dX12_erratum_0 : decode cX12_erratum 0 = .ok (.aload_n 0, 1) := by decide +kernel
theorem dX12_erratum_1 : decode cX12_erratum 1 = .ok (.iload_n 1, 1) := by decide +kernel
theorem dX12_erratum_2 : decode cX12_erratum 2 = .ok (.invokevirtual 392, 3) := by decide +kernel
theorem dX12_erratum_5 : decode cX12_erratum 5 = .ok (.astore 4, 2) := by decide +kernel
theorem dX12_erratum_7 : decode cX12_erratum 7 = .ok (.aload 4, 2) := by decide +kernel
theorem dX12_erratum_9 : decode cX12_erratum 9 = .ok (.ifnull 21, 3) := by decide +kernel
theorem dX12_erratum_12 : decode cX12_erratum 12 = .ok (.aload 4, 2) := by decide +kernel
theorem dX12_erratum_14 : decode cX12_erratum 14 = .ok (.getfield 385, 3) := by decide +kernel
theorem dX12_erratum_17 : decode cX12_erratum 17 = .ok (.iconst (-1), 1) := by decide +kernel
theorem dX12_erratum_18 : decode cX12_erratum 18 = .ok (.if_icmp .eq 12, 3) := by decide +kernel
theorem dX12_erratum_21 : decode cX12_erratum 21 = .ok (.aload_n 0, 1) := by decide +kernel
theorem dX12_erratum_22 : decode cX12_erratum 22 = .ok (.aload 4, 2) := by decide +kernel
theorem dX12_erratum_24 : decode cX12_erratum 24 = .ok (.invokevirtual 425, 3) := by decide +kernel
theorem dX12_erratum_27 : decode cX12_erratum 27 = .ok (.ifCond .ne 5, 3) := by decide +kernel
theorem dX12_erratum_30 : decode cX12_erratum 30 = .ok (.iconst (-1), 1) := by decide +kernel
theorem dX12_erratum_31 : decode cX12_erratum 31 = .ok (.ireturn, 1) := by decide +kernel
theorem dX12_erratum_32 : decode cX12_erratum 32 = .ok (.iload_n 2, 1) := by decide +kernel
theorem dX12_erratum_33 : decode cX12_erratum 33 = .ok (.ifCond .lt 21, 3) := by decide +kernel
theorem dX12_erratum_36 : decode cX12_erratum 36 = .ok (.iload_n 2, 1) := by decide +kernel
theorem dX12_erratum_37 : decode cX12_erratum 37 = .ok (.sipush 999, 3) := by decide +kernel
theorem dX12_erratum_40 : decode cX12_erratum 40 = .ok (.if_icmp .gt 14, 3) := by decide +kernel
theorem dX12_erratum_43 : decode cX12_erratum 43 = .ok (.iload_n 3, 1) := by decide +kernel
theorem dX12_erratum_44 : decode cX12_erratum 44 = .ok (.ifCond .lt 10, 3) := by decide +kernel
theorem dX12_erratum_47 : decode cX12_erratum 47 = .ok (.iload_n 3, 1) := by decide +kernel
theorem dX12_erratum_48 : decode cX12_erratum 48 = .ok (.sipush 999, 3) := by decide +kernel
theorem dX12_erratum_51 : decode cX12_erratum 51 = .ok (.if_icmp .le 5, 3) := by decide +kernel
theorem dX12_erratum_54 : decode cX12_erratum 54 = .ok (.iconst (-1), 1) := by decide +kernel
theorem dX12_erratum_55 : decode cX12_erratum 55 = .ok (.ireturn, 1) := by decide +kernel
theorem dX12_erratum_56 : decode cX12_erratum 56 = .ok (.aload_n 0, 1) := by decide +kernel
theorem dX12_erratum_57 : decode cX12_erratum 57 = .ok (.getfield 66, 3) := by decide +kernel
theorem dX12_erratum_60 : decode cX12_erratum 60 = .ok (.iload_n 1, 1) := by decide +kernel
theorem dX12_erratum_61 : decode cX12_erratum 61 = .ok (.aload 4, 2) := by decide +kernel
theorem dX12_erratum_63 : decode cX12_erratum 63 = .ok (.getfield 399, 3) := by decide +kernel
theorem dX12_erratum_66 : decode cX12_erratum 66 = .ok (.aload_n 0, 1) := by decide +kernel
theorem dX12_erratum_67 : decode cX12_erratum 67 = .ok (.getfield 133, 3) := by decide +kernel
theorem dX12_erratum_70 : decode cX12_erratum 70 = .ok (.invokevirtual 419, 3) := by decide +kernel
theorem dX12_erratum_73 : decode cX12_erratum 73 = .ok (.iload_n 2, 1) := by decide +kernel
theorem dX12_erratum_74 : decode cX12_erratum 74 = .ok (.if_icmp .ne 7, 3) := by decide +kernel
theorem dX12_erratum_77 : decode cX12_erratum 77 = .ok (.iconst 1, 1) := by decide +kernel
theorem dX12_erratum_78 : decode cX12_erratum 78 = .ok (.goto 4, 3) := by decide +kernel
theorem dX12_erratum_81 : decode cX12_erratum 81 = .ok (.iconst 0, 1) := by decide +kernel
theorem dX12_erratum_82 : decode cX12_erratum 82 = .ok (.istore 5, 2) := by decide +kernel
theorem dX12_erratum_84 : decode cX12_erratum 84 = .ok (.aload_n 0, 1) := by decide +kernel
theorem dX12_erratum_85 : decode cX12_erratum 85 = .ok (.getfield 66, 3) := by decide +kernel
theorem dX12_erratum_88 : decode cX12_erratum 88 = .ok (.iload_n 1, 1) := by decide +kernel
theorem dX12_erratum_89 : decode cX12_erratum 89 = .ok (.iload_n 2, 1) := by decide +kernel
theorem dX12_erratum_90 : decode cX12_erratum 90 = .ok (.iload_n 3, 1) := by decide +kernel
theorem dX12_erratum_91 : decode cX12_erratum 91 = .ok (.aload_n 0, 1) := by decide +kernel
theorem dX12_erratum_92 : decode cX12_erratum 92 = .ok (.getfield 133, 3) := by decide +kernel
theorem dX12_erratum_95 : decode cX12_erratum 95 = .ok (.iload 5, 2) := by decide +kernel
theorem dX12_erratum_97 : decode cX12_erratum 97 = .ok (.ifCond .ne 7, 3) := by decide +kernel
theorem dX12_erratum_100 : decode cX12_erratum 100 = .ok (.iconst 1, 1) := by decide +kernel
theorem dX12_erratum_101 : decode cX12_erratum 101 = .ok (.goto 4, 3) := by decide +kernel
theorem dX12_erratum_104 : decode cX12_erratum 104 = .ok (.iconst 0, 1) := by decide +kernel
theorem dX12_erratum_105 : decode cX12_erratum 105 = .ok (.invokevirtual 429, 3) := by decide +kernel
theorem dX12_erratum_108 : decode cX12_erratum 108 = .ok (.ireturn, 1) := by decide +kernel
set_option maxRecDepth 20000 in
theorem ggX12_misses_X5_missedBy : GoodIn wsX12_misses wsX5_missedBy := goodIn_r _ [6, 7, 8, 29, 30, 31, 32, 33, 34, 35, 36, 37, 38, 39, 40] (by decide +kernel) (by decide +kernel)
set_option maxRecDepth 20000 in
theorem gX12_misses_X5_missedBy : GoodIn wsX12_misses (wsV RX12 433 RX5 yX5_missedBy wsX5_missedBy) := goodIn_app (goodIn_of _ (by decide +kernel)) ggX12_misses_X5_missedBy
theorem dX12_misses_0 : decode cX12_misses 0 = .ok (.aload_n 0, 1) := by decide +kernel
theorem dX12_misses_1 : decode cX12_misses 1 = .ok (.getfield 66, 3) := by decide +kernel
theorem dX12_misses_4 : decode cX12_misses 4 = .ok (.iload_n 1, 1) := by decide +kernel
theorem dX12_misses_5 : decode cX12_misses 5 = .ok (.invokevirtual 433, 3) := by decide +kernel
theorem dX12_misses_8 : decode cX12_misses 8 = .ok (.ireturn, 1) := by decide +kernel
set_option maxRecDepth 20000 in
theorem ggX12_told_X12_lineAt : GoodIn wsX12_told wsX12_lineAt := goodIn_r _ [14, 15, 16, 40, 41, 42, 43, 44, 45, 46, 47, 48, 49, 50, 51, 52, 53, 54, 55, 56, 57, 58, 59] (by decide +kernel) (by decide +kernel)
set_option maxRecDepth 20000 in
theorem gX12_told_X12_lineAt : GoodIn wsX12_told (wsV RX12 392 RX12 yX12_lineAt wsX12_lineAt) := goodIn_app (goodIn_of _ (by decide +kernel)) ggX12_told_X12_lineAt
set_option maxRecDepth 20000 in
theorem ggX12_told_X5_keptOn : GoodIn wsX12_told wsX5_keptOn := goodIn_r _ [21, 22, 23, 24, 25, 26, 60, 61, 62, 63, 64, 65, 66, 67, 68, 69, 70, 71] (by decide +kernel) (by decide +kernel)
set_option maxRecDepth 20000 in
theorem gX12_told_X5_keptOn : GoodIn wsX12_told (wsV RX12 419 RX5 yX5_keptOn wsX5_keptOn) := goodIn_app (goodIn_of _ (by decide +kernel)) ggX12_told_X5_keptOn
set_option maxRecDepth 20000 in
theorem ggX12_told_X12_pageOf : GoodIn wsX12_told wsX12_pageOf := goodIn_r _ [30] (by decide +kernel) (by decide +kernel)
set_option maxRecDepth 20000 in
theorem gX12_told_X12_pageOf : GoodIn wsX12_told (wsV RX12 439 RX12 yX12_pageOf wsX12_pageOf) := goodIn_app (goodIn_of _ (by decide +kernel)) ggX12_told_X12_pageOf
theorem dX12_told_0 : decode cX12_told 0 = .ok (.aload_n 0, 1) := by decide +kernel
theorem dX12_told_1 : decode cX12_told 1 = .ok (.iload_n 1, 1) := by decide +kernel
theorem dX12_told_2 : decode cX12_told 2 = .ok (.invokevirtual 392, 3) := by decide +kernel
theorem dX12_told_5 : decode cX12_told 5 = .ok (.astore_n 3, 1) := by decide +kernel
theorem dX12_told_6 : decode cX12_told 6 = .ok (.aload_n 3, 1) := by decide +kernel
theorem dX12_told_7 : decode cX12_told 7 = .ok (.ifnonnull 5, 3) := by decide +kernel
theorem dX12_told_10 : decode cX12_told 10 = .ok (.iconst (-1), 1) := by decide +kernel
theorem dX12_told_11 : decode cX12_told 11 = .ok (.ireturn, 1) := by decide +kernel
theorem dX12_told_12 : decode cX12_told 12 = .ok (.iload_n 2, 1) := by decide +kernel
theorem dX12_told_13 : decode cX12_told 13 = .ok (.tableswitch 115 0 7 #[47, 52, 81, 86, 91, 96, 105, 110], 47) := by decide +kernel
theorem dX12_told_60 : decode cX12_told 60 = .ok (.aload_n 3, 1) := by decide +kernel
theorem dX12_told_61 : decode cX12_told 61 = .ok (.getfield 399, 3) := by decide +kernel
theorem dX12_told_64 : decode cX12_told 64 = .ok (.ireturn, 1) := by decide +kernel
theorem dX12_told_65 : decode cX12_told 65 = .ok (.aload_n 3, 1) := by decide +kernel
theorem dX12_told_66 : decode cX12_told 66 = .ok (.getfield 385, 3) := by decide +kernel
theorem dX12_told_69 : decode cX12_told 69 = .ok (.iconst (-1), 1) := by decide +kernel
theorem dX12_told_70 : decode cX12_told 70 = .ok (.if_icmp .ne 7, 3) := by decide +kernel
theorem dX12_told_73 : decode cX12_told 73 = .ok (.iconst (-1), 1) := by decide +kernel
theorem dX12_told_74 : decode cX12_told 74 = .ok (.goto 19, 3) := by decide +kernel
theorem dX12_told_77 : decode cX12_told 77 = .ok (.aload_n 0, 1) := by decide +kernel
theorem dX12_told_78 : decode cX12_told 78 = .ok (.getfield 66, 3) := by decide +kernel
theorem dX12_told_81 : decode cX12_told 81 = .ok (.iload_n 1, 1) := by decide +kernel
theorem dX12_told_82 : decode cX12_told 82 = .ok (.aload_n 3, 1) := by decide +kernel
theorem dX12_told_83 : decode cX12_told 83 = .ok (.getfield 399, 3) := by decide +kernel
theorem dX12_told_86 : decode cX12_told 86 = .ok (.aload_n 0, 1) := by decide +kernel
theorem dX12_told_87 : decode cX12_told 87 = .ok (.getfield 133, 3) := by decide +kernel
theorem dX12_told_90 : decode cX12_told 90 = .ok (.invokevirtual 419, 3) := by decide +kernel
theorem dX12_told_93 : decode cX12_told 93 = .ok (.ireturn, 1) := by decide +kernel
theorem dX12_told_94 : decode cX12_told 94 = .ok (.aload_n 3, 1) := by decide +kernel
theorem dX12_told_95 : decode cX12_told 95 = .ok (.getfield 385, 3) := by decide +kernel
theorem dX12_told_98 : decode cX12_told 98 = .ok (.ireturn, 1) := by decide +kernel
theorem dX12_told_99 : decode cX12_told 99 = .ok (.aload_n 3, 1) := by decide +kernel
theorem dX12_told_100 : decode cX12_told 100 = .ok (.getfield 402, 3) := by decide +kernel
theorem dX12_told_103 : decode cX12_told 103 = .ok (.ireturn, 1) := by decide +kernel
theorem dX12_told_104 : decode cX12_told 104 = .ok (.aload_n 3, 1) := by decide +kernel
theorem dX12_told_105 : decode cX12_told 105 = .ok (.getfield 422, 3) := by decide +kernel
theorem dX12_told_108 : decode cX12_told 108 = .ok (.ireturn, 1) := by decide +kernel
theorem dX12_told_109 : decode cX12_told 109 = .ok (.aload_n 0, 1) := by decide +kernel
theorem dX12_told_110 : decode cX12_told 110 = .ok (.aload_n 3, 1) := by decide +kernel
theorem dX12_told_111 : decode cX12_told 111 = .ok (.getfield 436, 3) := by decide +kernel
theorem dX12_told_114 : decode cX12_told 114 = .ok (.invokevirtual 439, 3) := by decide +kernel
theorem dX12_told_117 : decode cX12_told 117 = .ok (.ireturn, 1) := by decide +kernel
theorem dX12_told_118 : decode cX12_told 118 = .ok (.aload_n 3, 1) := by decide +kernel
theorem dX12_told_119 : decode cX12_told 119 = .ok (.getfield 382, 3) := by decide +kernel
theorem dX12_told_122 : decode cX12_told 122 = .ok (.ireturn, 1) := by decide +kernel
theorem dX12_told_123 : decode cX12_told 123 = .ok (.aload_n 3, 1) := by decide +kernel
theorem dX12_told_124 : decode cX12_told 124 = .ok (.getfield 442, 3) := by decide +kernel
theorem dX12_told_127 : decode cX12_told 127 = .ok (.ireturn, 1) := by decide +kernel
theorem dX12_told_128 : decode cX12_told 128 = .ok (.iconst (-1), 1) := by decide +kernel
theorem dX12_told_129 : decode cX12_told 129 = .ok (.ireturn, 1) := by decide +kernel
set_option maxRecDepth 20000 in
theorem ggX12_set_X12_volumeAt : GoodIn wsX12_set wsX12_volumeAt := goodIn_r _ [7, 8, 9, 10, 11, 6, 12, 273, 274, 275, 276, 277, 278, 279, 280, 281, 282, 283, 284, 285, 286, 287, 288, 289, 290, 291, 292] (by decide +kernel) (by decide +kernel)
set_option maxRecDepth 20000 in
theorem gX12_set_X12_volumeAt : GoodIn wsX12_set (wsV RX12 166 RX12 yX12_volumeAt wsX12_volumeAt) := goodIn_app (goodIn_of _ (by decide +kernel)) ggX12_set_X12_volumeAt
set_option maxRecDepth 20000 in
theorem ggX12_set_X12_arrange : GoodIn wsX12_set wsX12_arrange := goodIn_r _ [16, 17, 18, 19, 20, 21, 22, 23, 24, 25, 26, 27, 28, 29, 30, 31, 32, 33, 34, 35, 36, 37, 38, 39, 40, 41, 42, 43, 44, 45, 46, 47, 48, 49, 50, 51, 52, 53, 54, 55, 56, 57, 58, 59, 60, 61, 62, 63, 64, 65, 66, 67, 68, 69, 70, 71, 72, 73, 74, 75, 76, 77, 78, 79, 80, 81, 6, 82, 83, 84, 85, 86, 87, 88, 89, 90, 91, 92, 93, 94, 95, 96, 97, 98, 99, 100, 101, 102, 103, 104, 105, 106, 107, 108, 109, 110, 111, 112, 113, 114, 115, 116, 117, 118, 119, 120, 121, 122, 123, 124, 125, 126, 127, 128, 129, 130, 131, 132, 133, 134, 135, 136, 137, 138, 139, 140, 141, 142, 143, 273, 274, 275, 276, 277, 278, 279, 280, 281, 282, 283, 284, 285, 286, 287, 288, 289, 290, 291, 292, 293, 294, 295, 296, 297, 298, 299, 300, 301, 302, 303, 304, 305, 306, 307, 308, 309, 310, 311, 312, 313, 314, 315, 316, 317, 318, 319, 320, 321, 322, 323, 324, 325, 326, 327, 328] (by decide +kernel) (by decide +kernel)
set_option maxRecDepth 20000 in
theorem gX12_set_X12_arrange : GoodIn wsX12_set (wsV RX12 265 RX12 yX12_arrange wsX12_arrange) := goodIn_app (goodIn_of _ (by decide +kernel)) ggX12_set_X12_arrange
set_option maxRecDepth 20000 in
theorem ggX12_set_X12_rowMayBeSet : GoodIn wsX12_set wsX12_rowMayBeSet := goodIn_r _ [147, 17, 148, 149, 150, 151, 152, 6, 153, 119, 79, 80, 81, 82, 20, 83, 154, 155, 156, 157, 93, 158, 159, 160, 137, 161, 162, 163, 164, 165, 166, 167, 168, 19, 84, 85, 86, 87, 21, 88, 89, 90, 91, 92, 94, 95, 96, 97, 98, 169, 170, 171, 172, 173, 174, 175, 124, 176, 177, 178, 179, 180, 181, 182, 183, 184, 185, 186, 187, 36, 188, 66, 189, 190, 191, 192, 193, 194, 195, 196, 197, 198, 199, 200, 201, 202, 203, 204, 205, 206, 207, 208, 209, 210, 211, 212, 34, 35, 37, 38, 39, 40, 41, 42, 43, 44, 45, 46, 47, 48, 49, 50, 51, 52, 53, 54, 55, 56, 57, 58, 59, 60, 61, 62, 63, 64, 65, 67, 68, 69, 70, 71, 72, 73, 74, 75, 76, 77, 78, 273, 274, 275, 276, 277, 278, 279, 280, 281, 282, 283, 284, 285, 286, 287, 288, 289, 290, 291, 292, 293, 294, 295, 296, 297, 298, 299, 300, 301, 302, 303, 304, 305, 306, 307, 308, 309, 310, 329, 330, 331, 332, 333, 334, 317, 318, 319, 320, 321, 322, 323, 324, 325, 326, 327, 328] (by decide +kernel) (by decide +kernel)
set_option maxRecDepth 20000 in
theorem gX12_set_X12_rowMayBeSet : GoodIn wsX12_set (wsV RX12 443 RX12 yX12_rowMayBeSet wsX12_rowMayBeSet) := goodIn_app (goodIn_of _ (by decide +kernel)) ggX12_set_X12_rowMayBeSet
set_option maxRecDepth 20000 in
theorem ggX12_set_X12_lay : GoodIn wsX12_set wsX12_lay := goodIn_r _ [216, 217, 218, 119, 17, 219, 220, 74, 221, 222, 19, 1, 98, 21, 223, 2, 224, 225, 226, 227, 6, 228, 174, 150, 151, 152, 153, 79, 80, 81, 82, 20, 83, 154, 155, 156, 157, 93, 229, 230, 231, 232, 233, 234, 235, 236, 237, 238, 239, 240, 241, 242, 121, 122, 123, 243, 244, 245, 246, 247, 248, 124, 249, 250, 251, 252, 253, 254, 255, 256, 257, 258, 259, 260, 261, 262, 263, 264, 265, 148, 266, 267, 268, 269, 270, 271, 272, 273, 274, 275, 276, 277, 278, 279, 280, 281, 282, 283, 284, 285, 286, 287, 288, 289, 290, 291, 292, 293, 294, 295, 296, 297, 298, 299, 300, 301, 302, 303, 304, 305, 306, 307, 308, 309, 310, 335, 336, 337, 338, 339, 340, 341, 342, 343] (by decide +kernel) (by decide +kernel)
set_option maxRecDepth 20000 in
theorem gX12_set_X12_lay : GoodIn wsX12_set (wsV RX12 446 RX12 yX12_lay wsX12_lay) := goodIn_app (goodIn_of _ (by decide +kernel)) ggX12_set_X12_lay
theorem dX12_set_0 : decode cX12_set 0 = .ok (.aload_n 0, 1) := by decide +kernel
theorem dX12_set_1 : decode cX12_set 1 = .ok (.iload_n 1, 1) := by decide +kernel
theorem dX12_set_2 : decode cX12_set 2 = .ok (.invokevirtual 166, 3) := by decide +kernel
theorem dX12_set_5 : decode cX12_set 5 = .ok (.astore_n 2, 1) := by decide +kernel
theorem dX12_set_6 : decode cX12_set 6 = .ok (.aload_n 2, 1) := by decide +kernel
theorem dX12_set_7 : decode cX12_set 7 = .ok (.ifnull 11, 3) := by decide +kernel
theorem dX12_set_10 : decode cX12_set 10 = .ok (.aload_n 2, 1) := by decide +kernel
theorem dX12_set_11 : decode cX12_set 11 = .ok (.getfield 170, 3) := by decide +kernel
theorem dX12_set_14 : decode cX12_set 14 = .ok (.iconst (-1), 1) := by decide +kernel
theorem dX12_set_15 : decode cX12_set 15 = .ok (.if_icmp .eq 5, 3) := by decide +kernel
theorem dX12_set_18 : decode cX12_set 18 = .ok (.iconst (-1), 1) := by decide +kernel
theorem dX12_set_19 : decode cX12_set 19 = .ok (.ireturn, 1) := by decide +kernel
theorem dX12_set_20 : decode cX12_set 20 = .ok (.aload_n 0, 1) := by decide +kernel
theorem dX12_set_21 : decode cX12_set 21 = .ok (.iload_n 1, 1) := by decide +kernel
theorem dX12_set_22 : decode cX12_set 22 = .ok (.invokevirtual 265, 3) := by decide +kernel
theorem dX12_set_25 : decode cX12_set 25 = .ok (.aload_n 0, 1) := by decide +kernel
theorem dX12_set_26 : decode cX12_set 26 = .ok (.invokevirtual 443, 3) := by decide +kernel
theorem dX12_set_29 : decode cX12_set 29 = .ok (.ifCond .ne 5, 3) := by decide +kernel
theorem dX12_set_32 : decode cX12_set 32 = .ok (.iconst (-1), 1) := by decide +kernel
theorem dX12_set_33 : decode cX12_set 33 = .ok (.ireturn, 1) := by decide +kernel
theorem dX12_set_34 : decode cX12_set 34 = .ok (.aload_n 0, 1) := by decide +kernel
theorem dX12_set_35 : decode cX12_set 35 = .ok (.aload_n 2, 1) := by decide +kernel
theorem dX12_set_36 : decode cX12_set 36 = .ok (.iload_n 1, 1) := by decide +kernel
theorem dX12_set_37 : decode cX12_set 37 = .ok (.invokevirtual 446, 3) := by decide +kernel
theorem dX12_set_40 : decode cX12_set 40 = .ok (.aload_n 2, 1) := by decide +kernel
theorem dX12_set_41 : decode cX12_set 41 = .ok (.getfield 450, 3) := by decide +kernel
theorem dX12_set_44 : decode cX12_set 44 = .ok (.bipush 40, 2) := by decide +kernel
theorem dX12_set_46 : decode cX12_set 46 = .ok (.iadd, 1) := by decide +kernel
theorem dX12_set_47 : decode cX12_set 47 = .ok (.iconst 1, 1) := by decide +kernel
theorem dX12_set_48 : decode cX12_set 48 = .ok (.isub, 1) := by decide +kernel
theorem dX12_set_49 : decode cX12_set 49 = .ok (.bipush 40, 2) := by decide +kernel
theorem dX12_set_51 : decode cX12_set 51 = .ok (.idiv, 1) := by decide +kernel
theorem dX12_set_52 : decode cX12_set 52 = .ok (.ireturn, 1) := by decide +kernel
set_option maxRecDepth 20000 in
theorem ggX12_rowMayBeSet_X12_inRow : GoodIn wsX12_rowMayBeSet wsX12_inRow := goodIn_r _ [8, 1, 9, 10, 11, 12, 7, 13, 14, 15, 139, 140, 141, 142, 143, 144, 145, 146, 147, 148, 149, 150, 151, 152, 153, 154, 155, 156, 157, 158] (by decide +kernel) (by decide +kernel)
set_option maxRecDepth 20000 in
theorem gX12_rowMayBeSet_X12_inRow : GoodIn wsX12_rowMayBeSet (wsV RX12 452 RX12 yX12_inRow wsX12_inRow) := goodIn_app (goodIn_of _ (by decide +kernel)) ggX12_rowMayBeSet_X12_inRow
set_option maxRecDepth 20000 in
theorem ggX12_rowMayBeSet_X12_isStruck : GoodIn wsX12_rowMayBeSet wsX12_isStruck := goodIn_r _ [19, 20, 159, 160, 161, 162, 163, 164, 165, 166, 167, 168, 169, 170, 171, 172, 173, 174, 175, 176] (by decide +kernel) (by decide +kernel)
set_option maxRecDepth 20000 in
theorem gX12_rowMayBeSet_X12_isStruck : GoodIn wsX12_rowMayBeSet (wsV RX12 319 RX12 yX12_isStruck wsX12_isStruck) := goodIn_app (goodIn_of _ (by decide +kernel)) ggX12_rowMayBeSet_X12_isStruck
set_option maxRecDepth 20000 in
theorem ggX12_rowMayBeSet_X0_isDone : GoodIn wsX12_rowMayBeSet wsX0_isDone := goodIn_r _ [25, 26, 27, 159, 160, 161, 162, 163, 164, 165, 166, 167, 168, 169, 170, 171, 172, 173, 174, 175, 176] (by decide +kernel) (by decide +kernel)
set_option maxRecDepth 20000 in
theorem gX12_rowMayBeSet_X0_isDone : GoodIn wsX12_rowMayBeSet (wsV RX12 306 RX0 yX0_isDone wsX0_isDone) := goodIn_app (goodIn_of _ (by decide +kernel)) ggX12_rowMayBeSet_X0_isDone
set_option maxRecDepth 20000 in
theorem ggX12_rowMayBeSet_X12_valueFor : GoodIn wsX12_rowMayBeSet wsX12_valueFor := goodIn_r _ [31, 32, 33, 34, 35, 36, 7, 37, 38, 39, 40, 41, 42, 43, 20, 44, 45, 46, 47, 48, 49, 50, 51, 52, 53, 54, 55, 56, 57, 58, 59, 60, 61, 62, 63, 64, 65, 66, 67, 68, 69, 70, 71, 72, 73, 74, 75, 76, 77, 78, 79, 80, 81, 82, 14, 2, 83, 10, 11, 12, 13, 15, 16, 17, 18, 19, 84, 85, 86, 87, 88, 89, 90, 24, 91, 92, 93, 26, 27, 94, 95, 96, 97, 98, 99, 100, 101, 102, 103, 104, 105, 106, 107, 108, 109, 110, 111, 112, 113, 114, 115, 116, 117, 118, 119, 120, 121, 122, 123, 124, 125, 126, 127, 128, 129, 130, 131, 132, 133, 134, 135, 136, 137, 138, 139, 140, 141, 142, 143, 144, 145, 146, 147, 148, 149, 150, 151, 152, 153, 154, 155, 156, 157, 158, 159, 160, 161, 162, 163, 164, 165, 166, 167, 168, 169, 170, 171, 172, 173, 174, 175, 176, 177, 178, 179, 180, 181, 182, 183, 184, 185, 186, 187, 188, 189, 190, 191, 192, 193, 194] (by decide +kernel) (by decide +kernel)
set_option maxRecDepth 20000 in
theorem gX12_rowMayBeSet_X12_valueFor : GoodIn wsX12_rowMayBeSet (wsV RX12 328 RX12 yX12_valueFor wsX12_valueFor) := goodIn_app (goodIn_of _ (by decide +kernel)) ggX12_rowMayBeSet_X12_valueFor
theorem dX12_rowMayBeSet_0 : decode cX12_rowMayBeSet 0 = .ok (.iconst 0, 1) := by decide +kernel
theorem dX12_rowMayBeSet_1 : decode cX12_rowMayBeSet 1 = .ok (.istore_n 1, 1) := by decide +kernel
theorem dX12_rowMayBeSet_2 : decode cX12_rowMayBeSet 2 = .ok (.iload_n 1, 1) := by decide +kernel
theorem dX12_rowMayBeSet_3 : decode cX12_rowMayBeSet 3 = .ok (.aload_n 0, 1) := by decide +kernel
theorem dX12_rowMayBeSet_4 : decode cX12_rowMayBeSet 4 = .ok (.getfield 268, 3) := by decide +kernel
theorem dX12_rowMayBeSet_7 : decode cX12_rowMayBeSet 7 = .ok (.if_icmp .ge 59, 3) := by decide +kernel
theorem dX12_rowMayBeSet_10 : decode cX12_rowMayBeSet 10 = .ok (.aload_n 0, 1) := by decide +kernel
theorem dX12_rowMayBeSet_11 : decode cX12_rowMayBeSet 11 = .ok (.iload_n 1, 1) := by decide +kernel
theorem dX12_rowMayBeSet_12 : decode cX12_rowMayBeSet 12 = .ok (.invokevirtual 452, 3) := by decide +kernel
theorem dX12_rowMayBeSet_15 : decode cX12_rowMayBeSet 15 = .ok (.astore_n 2, 1) := by decide +kernel
theorem dX12_rowMayBeSet_16 : decode cX12_rowMayBeSet 16 = .ok (.aload_n 2, 1) := by decide +kernel
theorem dX12_rowMayBeSet_17 : decode cX12_rowMayBeSet 17 = .ok (.ifnull 43, 3) := by decide +kernel
theorem dX12_rowMayBeSet_20 : decode cX12_rowMayBeSet 20 = .ok (.aload_n 2, 1) := by decide +kernel
theorem dX12_rowMayBeSet_21 : decode cX12_rowMayBeSet 21 = .ok (.getfield 240, 3) := by decide +kernel
theorem dX12_rowMayBeSet_24 : decode cX12_rowMayBeSet 24 = .ok (.ifCond .ne 36, 3) := by decide +kernel
theorem dX12_rowMayBeSet_27 : decode cX12_rowMayBeSet 27 = .ok (.aload_n 0, 1) := by decide +kernel
theorem dX12_rowMayBeSet_28 : decode cX12_rowMayBeSet 28 = .ok (.aload_n 2, 1) := by decide +kernel
theorem dX12_rowMayBeSet_29 : decode cX12_rowMayBeSet 29 = .ok (.invokevirtual 319, 3) := by decide +kernel
theorem dX12_rowMayBeSet_32 : decode cX12_rowMayBeSet 32 = .ok (.ifCond .eq 6, 3) := by decide +kernel
theorem dX12_rowMayBeSet_35 : decode cX12_rowMayBeSet 35 = .ok (.goto 25, 3) := by decide +kernel
theorem dX12_rowMayBeSet_38 : decode cX12_rowMayBeSet 38 = .ok (.aload_n 2, 1) := by decide +kernel
theorem dX12_rowMayBeSet_39 : decode cX12_rowMayBeSet 39 = .ok (.invokevirtual 306, 3) := by decide +kernel
theorem dX12_rowMayBeSet_42 : decode cX12_rowMayBeSet 42 = .ok (.ifCond .eq 16, 3) := by decide +kernel
theorem dX12_rowMayBeSet_45 : decode cX12_rowMayBeSet 45 = .ok (.aload_n 0, 1) := by decide +kernel
theorem dX12_rowMayBeSet_46 : decode cX12_rowMayBeSet 46 = .ok (.iconst 3, 1) := by decide +kernel
theorem dX12_rowMayBeSet_47 : decode cX12_rowMayBeSet 47 = .ok (.aload_n 2, 1) := by decide +kernel
theorem dX12_rowMayBeSet_48 : decode cX12_rowMayBeSet 48 = .ok (.aload_n 2, 1) := by decide +kernel
theorem dX12_rowMayBeSet_49 : decode cX12_rowMayBeSet 49 = .ok (.getfield 313, 3) := by decide +kernel
theorem dX12_rowMayBeSet_52 : decode cX12_rowMayBeSet 52 = .ok (.invokevirtual 328, 3) := by decide +kernel
theorem dX12_rowMayBeSet_55 : decode cX12_rowMayBeSet 55 = .ok (.ifCond .ne 5, 3) := by decide +kernel
theorem dX12_rowMayBeSet_58 : decode cX12_rowMayBeSet 58 = .ok (.iconst 0, 1) := by decide +kernel
theorem dX12_rowMayBeSet_59 : decode cX12_rowMayBeSet 59 = .ok (.ireturn, 1) := by decide +kernel
theorem dX12_rowMayBeSet_60 : decode cX12_rowMayBeSet 60 = .ok (.iinc 1 1, 3) := by decide +kernel
theorem dX12_rowMayBeSet_63 : decode cX12_rowMayBeSet 63 = .ok (.goto (-61), 3) := by decide +kernel
theorem dX12_rowMayBeSet_66 : decode cX12_rowMayBeSet 66 = .ok (.iconst 1, 1) := by decide +kernel
theorem dX12_rowMayBeSet_67 : decode cX12_rowMayBeSet 67 = .ok (.ireturn, 1) := by decide +kernel
set_option maxRecDepth 20000 in
theorem ggX12_lay_X12_linesInRow : GoodIn wsX12_lay wsX12_linesInRow := goodIn_r _ [21, 4, 22, 23, 24, 25, 20, 26, 3, 27, 28, 29, 30, 31, 32, 33, 34, 35, 36, 37, 87, 88, 89, 90, 91, 92, 93, 94, 95, 96, 97, 98, 99, 100, 101, 102, 103, 104, 105, 106, 107, 108, 109, 110, 111, 112, 113, 114, 115, 116, 117, 118, 119, 120, 121, 122, 123, 124] (by decide +kernel) (by decide +kernel)
set_option maxRecDepth 20000 in
theorem gX12_lay_X12_linesInRow : GoodIn wsX12_lay (wsV RX12 455 RX12 yX12_linesInRow wsX12_linesInRow) := goodIn_app (goodIn_of _ (by decide +kernel)) ggX12_lay_X12_linesInRow
set_option maxRecDepth 20000 in
theorem ggX12_lay_J7_copyOf_59c91 : GoodIn wsX12_lay wsJ7_copyOf_59c91 := goodIn_r _ [41, 42, 43, 44, 45, 46, 47, 1, 48, 49, 7, 50, 51, 52, 53, 54] (by decide +kernel) (by decide +kernel)
set_option maxRecDepth 20000 in
theorem gX12_lay_J7_copyOf_59c91 : GoodIn wsX12_lay (va_wsS RX12 461 yJ7_copyOf_59c91 wsJ7_copyOf_59c91) := goodIn_app (goodIn_of _ (by decide +kernel)) ggX12_lay_J7_copyOf_59c91
set_option maxRecDepth 20000 in
theorem ggX12_lay_X12_inRow : GoodIn wsX12_lay wsX12_inRow := goodIn_r _ [26, 4, 3, 27, 28, 29, 20, 30, 31, 32, 87, 88, 89, 90, 91, 92, 93, 94, 95, 96, 97, 98, 99, 100, 101, 102, 103, 104, 105, 106] (by decide +kernel) (by decide +kernel)
set_option maxRecDepth 20000 in
theorem gX12_lay_X12_inRow : GoodIn wsX12_lay (wsV RX12 452 RX12 yX12_inRow wsX12_inRow) := goodIn_app (goodIn_of _ (by decide +kernel)) ggX12_lay_X12_inRow
set_option maxRecDepth 20000 in
theorem ggX12_lay_X12_isStruck : GoodIn wsX12_lay wsX12_isStruck := goodIn_r _ [36, 37, 107, 108, 109, 110, 111, 112, 113, 114, 115, 116, 117, 118, 119, 120, 121, 122, 123, 124] (by decide +kernel) (by decide +kernel)
set_option maxRecDepth 20000 in
theorem gX12_lay_X12_isStruck : GoodIn wsX12_lay (wsV RX12 319 RX12 yX12_isStruck wsX12_isStruck) := goodIn_app (goodIn_of _ (by decide +kernel)) ggX12_lay_X12_isStruck
set_option maxRecDepth 20000 in
theorem ggX12_lay_X12_layLines : GoodIn wsX12_lay wsX12_layLines := goodIn_r _ [58, 16, 59, 60, 61, 62, 63, 64, 65, 20, 66, 67, 68, 69, 70, 71, 72, 73, 74, 107, 108, 109, 110, 111, 112, 113, 114, 115, 116, 117, 118, 119, 120, 121, 122, 123, 124, 87, 88, 89, 90, 91, 92, 93, 94, 95, 96, 97, 98, 99, 100, 101, 102, 103, 104, 105, 106, 125, 126, 127, 128, 129, 130, 131, 132, 133, 80, 81, 82, 83, 84, 85, 86] (by decide +kernel) (by decide +kernel)
set_option maxRecDepth 20000 in
theorem gX12_lay_X12_layLines : GoodIn wsX12_lay (wsV RX12 471 RX12 yX12_layLines wsX12_layLines) := goodIn_app (goodIn_of _ (by decide +kernel)) ggX12_lay_X12_layLines
set_option maxRecDepth 20000 in
theorem ggX12_lay_X12_takenLines : GoodIn wsX12_lay wsX12_takenLines := goodIn_r _ [78, 79, 22, 107, 108, 109, 110, 111, 112, 113, 114, 115, 116, 117, 118, 119, 120, 121, 122, 123, 124] (by decide +kernel) (by decide +kernel)
set_option maxRecDepth 20000 in
theorem gX12_lay_X12_takenLines : GoodIn wsX12_lay (wsV RX12 475 RX12 yX12_takenLines wsX12_takenLines) := goodIn_app (goodIn_of _ (by decide +kernel)) ggX12_lay_X12_takenLines
theorem dX12_lay_0 : decode cX12_lay 0 = .ok (.aload_n 1, 1) := by decide +kernel
theorem dX12_lay_1 : decode cX12_lay 1 = .ok (.aload_n 0, 1) := by decide +kernel
theorem dX12_lay_2 : decode cX12_lay 2 = .ok (.invokevirtual 455, 3) := by decide +kernel
theorem dX12_lay_5 : decode cX12_lay 5 = .ok (.newarray .int, 2) := by decide +kernel
theorem dX12_lay_7 : decode cX12_lay 7 = .ok (.putfield 458, 3) := by decide +kernel
theorem dX12_lay_10 : decode cX12_lay 10 = .ok (.aload_n 1, 1) := by decide +kernel
theorem dX12_lay_11 : decode cX12_lay 11 = .ok (.aload_n 0, 1) := by decide +kernel
theorem dX12_lay_12 : decode cX12_lay 12 = .ok (.getfield 47, 3) := by decide +kernel
theorem dX12_lay_15 : decode cX12_lay 15 = .ok (.iconst 0, 1) := by decide +kernel
theorem dX12_lay_16 : decode cX12_lay 16 = .ok (.aload_n 0, 1) := by decide +kernel
theorem dX12_lay_17 : decode cX12_lay 17 = .ok (.getfield 268, 3) := by decide +kernel
theorem dX12_lay_20 : decode cX12_lay 20 = .ok (.invokestatic 379, 3) := by decide +kernel
theorem dX12_lay_23 : decode cX12_lay 23 = .ok (.invokestatic 461, 3) := by decide +kernel
theorem dX12_lay_26 : decode cX12_lay 26 = .ok (.putfield 263, 3) := by decide +kernel
theorem dX12_lay_29 : decode cX12_lay 29 = .ok (.aload_n 1, 1) := by decide +kernel
theorem dX12_lay_30 : decode cX12_lay 30 = .ok (.aload_n 0, 1) := by decide +kernel
theorem dX12_lay_31 : decode cX12_lay 31 = .ok (.getfield 133, 3) := by decide +kernel
theorem dX12_lay_34 : decode cX12_lay 34 = .ok (.putfield 170, 3) := by decide +kernel
theorem dX12_lay_37 : decode cX12_lay 37 = .ok (.aload_n 0, 1) := by decide +kernel
theorem dX12_lay_38 : decode cX12_lay 38 = .ok (.dup, 1) := by decide +kernel
theorem dX12_lay_39 : decode cX12_lay 39 = .ok (.getfield 158, 3) := by decide +kernel
theorem dX12_lay_42 : decode cX12_lay 42 = .ok (.iconst 1, 1) := by decide +kernel
theorem dX12_lay_43 : decode cX12_lay 43 = .ok (.iload_n 2, 1) := by decide +kernel
theorem dX12_lay_44 : decode cX12_lay 44 = .ok (.ishl, 1) := by decide +kernel
theorem dX12_lay_45 : decode cX12_lay 45 = .ok (.ior, 1) := by decide +kernel
theorem dX12_lay_46 : decode cX12_lay 46 = .ok (.putfield 158, 3) := by decide +kernel
theorem dX12_lay_49 : decode cX12_lay 49 = .ok (.iconst 0, 1) := by decide +kernel
theorem dX12_lay_50 : decode cX12_lay 50 = .ok (.istore_n 3, 1) := by decide +kernel
theorem dX12_lay_51 : decode cX12_lay 51 = .ok (.iload_n 3, 1) := by decide +kernel
theorem dX12_lay_52 : decode cX12_lay 52 = .ok (.aload_n 0, 1) := by decide +kernel
theorem dX12_lay_53 : decode cX12_lay 53 = .ok (.getfield 268, 3) := by decide +kernel
theorem dX12_lay_56 : decode cX12_lay 56 = .ok (.if_icmp .ge 83, 3) := by decide +kernel
theorem dX12_lay_59 : decode cX12_lay 59 = .ok (.aload_n 0, 1) := by decide +kernel
theorem dX12_lay_60 : decode cX12_lay 60 = .ok (.iload_n 3, 1) := by decide +kernel
theorem dX12_lay_61 : decode cX12_lay 61 = .ok (.invokevirtual 452, 3) := by decide +kernel
theorem dX12_lay_64 : decode cX12_lay 64 = .ok (.astore 4, 2) := by decide +kernel
theorem dX12_lay_66 : decode cX12_lay 66 = .ok (.aload 4, 2) := by decide +kernel
theorem dX12_lay_68 : decode cX12_lay 68 = .ok (.ifnonnull 6, 3) := by decide +kernel
theorem dX12_lay_71 : decode cX12_lay 71 = .ok (.goto 62, 3) := by decide +kernel
theorem dX12_lay_74 : decode cX12_lay 74 = .ok (.aload 4, 2) := by decide +kernel
theorem dX12_lay_76 : decode cX12_lay 76 = .ok (.iload_n 2, 1) := by decide +kernel
theorem dX12_lay_77 : decode cX12_lay 77 = .ok (.putfield 247, 3) := by decide +kernel
theorem dX12_lay_80 : decode cX12_lay 80 = .ok (.aload_n 0, 1) := by decide +kernel
theorem dX12_lay_81 : decode cX12_lay 81 = .ok (.aload 4, 2) := by decide +kernel
theorem dX12_lay_83 : decode cX12_lay 83 = .ok (.invokevirtual 319, 3) := by decide +kernel
theorem dX12_lay_86 : decode cX12_lay 86 = .ok (.ifCond .eq 16, 3) := by decide +kernel
theorem dX12_lay_89 : decode cX12_lay 89 = .ok (.aload_n 1, 1) := by decide +kernel
theorem dX12_lay_90 : decode cX12_lay 90 = .ok (.dup, 1) := by decide +kernel
theorem dX12_lay_91 : decode cX12_lay 91 = .ok (.getfield 465, 3) := by decide +kernel
theorem dX12_lay_94 : decode cX12_lay 94 = .ok (.iconst 1, 1) := by decide +kernel
theorem dX12_lay_95 : decode cX12_lay 95 = .ok (.iadd, 1) := by decide +kernel
theorem dX12_lay_96 : decode cX12_lay 96 = .ok (.putfield 465, 3) := by decide +kernel
theorem dX12_lay_99 : decode cX12_lay 99 = .ok (.goto 34, 3) := by decide +kernel
theorem dX12_lay_102 : decode cX12_lay 102 = .ok (.aload 4, 2) := by decide +kernel
theorem dX12_lay_104 : decode cX12_lay 104 = .ok (.aload_n 1, 1) := by decide +kernel
theorem dX12_lay_105 : decode cX12_lay 105 = .ok (.getfield 450, 3) := by decide +kernel
theorem dX12_lay_108 : decode cX12_lay 108 = .ok (.putfield 468, 3) := by decide +kernel
theorem dX12_lay_111 : decode cX12_lay 111 = .ok (.aload_n 0, 1) := by decide +kernel
theorem dX12_lay_112 : decode cX12_lay 112 = .ok (.aload_n 1, 1) := by decide +kernel
theorem dX12_lay_113 : decode cX12_lay 113 = .ok (.aload 4, 2) := by decide +kernel
theorem dX12_lay_115 : decode cX12_lay 115 = .ok (.invokevirtual 471, 3) := by decide +kernel
theorem dX12_lay_118 : decode cX12_lay 118 = .ok (.aload_n 1, 1) := by decide +kernel
theorem dX12_lay_119 : decode cX12_lay 119 = .ok (.dup, 1) := by decide +kernel
theorem dX12_lay_120 : decode cX12_lay 120 = .ok (.getfield 450, 3) := by decide +kernel
theorem dX12_lay_123 : decode cX12_lay 123 = .ok (.aload_n 0, 1) := by decide +kernel
theorem dX12_lay_124 : decode cX12_lay 124 = .ok (.aload 4, 2) := by decide +kernel
theorem dX12_lay_126 : decode cX12_lay 126 = .ok (.invokevirtual 475, 3) := by decide +kernel
theorem dX12_lay_129 : decode cX12_lay 129 = .ok (.iadd, 1) := by decide +kernel
theorem dX12_lay_130 : decode cX12_lay 130 = .ok (.putfield 450, 3) := by decide +kernel
theorem dX12_lay_133 : decode cX12_lay 133 = .ok (.iinc 3 1, 3) := by decide +kernel
theorem dX12_lay_136 : decode cX12_lay 136 = .ok (.goto (-85), 3) := by decide +kernel
theorem dX12_lay_139 : decode cX12_lay 139 = .ok (.return_, 1) := by decide +kernel
set_option maxRecDepth 20000 in
theorem ggX12_linesInRow_X12_inRow : GoodIn wsX12_linesInRow wsX12_inRow := goodIn_r _ [7, 1, 8, 9, 10, 11, 6, 12, 13, 14, 20, 21, 22, 23, 24, 25, 26, 27, 28, 29, 30, 31, 32, 33, 34, 35, 36, 37, 38, 39] (by decide +kernel) (by decide +kernel)
set_option maxRecDepth 20000 in
theorem gX12_linesInRow_X12_inRow : GoodIn wsX12_linesInRow (wsV RX12 452 RX12 yX12_inRow wsX12_inRow) := goodIn_app (goodIn_of _ (by decide +kernel)) ggX12_linesInRow_X12_inRow
set_option maxRecDepth 20000 in
theorem ggX12_linesInRow_X12_isStruck : GoodIn wsX12_linesInRow wsX12_isStruck := goodIn_r _ [18, 19, 40, 41, 42, 43, 44, 45, 46, 47, 48, 49, 50, 51, 52, 53, 54, 55, 56, 57] (by decide +kernel) (by decide +kernel)
set_option maxRecDepth 20000 in
theorem gX12_linesInRow_X12_isStruck : GoodIn wsX12_linesInRow (wsV RX12 319 RX12 yX12_isStruck wsX12_isStruck) := goodIn_app (goodIn_of _ (by decide +kernel)) ggX12_linesInRow_X12_isStruck
theorem dX12_linesInRow_0 : decode cX12_linesInRow 0 = .ok (.iconst 0, 1) := by decide +kernel
theorem dX12_linesInRow_1 : decode cX12_linesInRow 1 = .ok (.istore_n 1, 1) := by decide +kernel
theorem dX12_linesInRow_2 : decode cX12_linesInRow 2 = .ok (.iconst 0, 1) := by decide +kernel
theorem dX12_linesInRow_3 : decode cX12_linesInRow 3 = .ok (.istore_n 2, 1) := by decide +kernel
theorem dX12_linesInRow_4 : decode cX12_linesInRow 4 = .ok (.iload_n 2, 1) := by decide +kernel
theorem dX12_linesInRow_5 : decode cX12_linesInRow 5 = .ok (.aload_n 0, 1) := by decide +kernel
theorem dX12_linesInRow_6 : decode cX12_linesInRow 6 = .ok (.getfield 268, 3) := by decide +kernel
theorem dX12_linesInRow_9 : decode cX12_linesInRow 9 = .ok (.if_icmp .ge 34, 3) := by decide +kernel
theorem dX12_linesInRow_12 : decode cX12_linesInRow 12 = .ok (.aload_n 0, 1) := by decide +kernel
theorem dX12_linesInRow_13 : decode cX12_linesInRow 13 = .ok (.iload_n 2, 1) := by decide +kernel
theorem dX12_linesInRow_14 : decode cX12_linesInRow 14 = .ok (.invokevirtual 452, 3) := by decide +kernel
theorem dX12_linesInRow_17 : decode cX12_linesInRow 17 = .ok (.astore_n 3, 1) := by decide +kernel
theorem dX12_linesInRow_18 : decode cX12_linesInRow 18 = .ok (.aload_n 3, 1) := by decide +kernel
theorem dX12_linesInRow_19 : decode cX12_linesInRow 19 = .ok (.ifnull 18, 3) := by decide +kernel
theorem dX12_linesInRow_22 : decode cX12_linesInRow 22 = .ok (.aload_n 0, 1) := by decide +kernel
theorem dX12_linesInRow_23 : decode cX12_linesInRow 23 = .ok (.aload_n 3, 1) := by decide +kernel
theorem dX12_linesInRow_24 : decode cX12_linesInRow 24 = .ok (.invokevirtual 319, 3) := by decide +kernel
theorem dX12_linesInRow_27 : decode cX12_linesInRow 27 = .ok (.ifCond .ne 10, 3) := by decide +kernel
theorem dX12_linesInRow_30 : decode cX12_linesInRow 30 = .ok (.iload_n 1, 1) := by decide +kernel
theorem dX12_linesInRow_31 : decode cX12_linesInRow 31 = .ok (.aload_n 3, 1) := by decide +kernel
theorem dX12_linesInRow_32 : decode cX12_linesInRow 32 = .ok (.getfield 342, 3) := by decide +kernel
theorem dX12_linesInRow_35 : decode cX12_linesInRow 35 = .ok (.iadd, 1) := by decide +kernel
theorem dX12_linesInRow_36 : decode cX12_linesInRow 36 = .ok (.istore_n 1, 1) := by decide +kernel
theorem dX12_linesInRow_37 : decode cX12_linesInRow 37 = .ok (.iinc 2 1, 3) := by decide +kernel
theorem dX12_linesInRow_40 : decode cX12_linesInRow 40 = .ok (.goto (-36), 3) := by decide +kernel
theorem dX12_linesInRow_43 : decode cX12_linesInRow 43 = .ok (.iload_n 1, 1) := by decide +kernel
theorem dX12_linesInRow_44 : decode cX12_linesInRow 44 = .ok (.ireturn, 1) := by decide +kernel
set_option maxRecDepth 20000 in
theorem ggX12_layLines_X12_lineAt : GoodIn wsX12_layLines wsX12_lineAt := goodIn_r _ [10, 2, 11, 37, 38, 39, 40, 41, 42, 43, 44, 45, 46, 47, 48, 49, 50, 51, 52, 53, 54, 55, 56] (by decide +kernel) (by decide +kernel)
set_option maxRecDepth 20000 in
theorem gX12_layLines_X12_lineAt : GoodIn wsX12_layLines (wsV RX12 392 RX12 yX12_lineAt wsX12_lineAt) := goodIn_app (goodIn_of _ (by decide +kernel)) ggX12_layLines_X12_lineAt
set_option maxRecDepth 20000 in
theorem ggX12_layLines_X11_addLaid : GoodIn wsX12_layLines wsX11_addLaid := goodIn_r _ [16, 17, 18, 66, 67, 68, 69, 70, 71, 72] (by decide +kernel) (by decide +kernel)
set_option maxRecDepth 20000 in
theorem gX12_layLines_X11_addLaid : GoodIn wsX12_layLines (wsV RX12 478 RX11 yX11_addLaid wsX11_addLaid) := goodIn_app (goodIn_of _ (by decide +kernel)) ggX12_layLines_X11_addLaid
theorem dX12_layLines_0 : decode cX12_layLines 0 = .ok (.aload_n 2, 1) := by decide +kernel
theorem dX12_layLines_1 : decode cX12_layLines 1 = .ok (.getfield 468, 3) := by decide +kernel
theorem dX12_layLines_4 : decode cX12_layLines 4 = .ok (.istore_n 3, 1) := by decide +kernel
theorem dX12_layLines_5 : decode cX12_layLines 5 = .ok (.iconst 0, 1) := by decide +kernel
theorem dX12_layLines_6 : decode cX12_layLines 6 = .ok (.istore 4, 2) := by decide +kernel
theorem dX12_layLines_8 : decode cX12_layLines 8 = .ok (.iload 4, 2) := by decide +kernel
theorem dX12_layLines_10 : decode cX12_layLines 10 = .ok (.aload_n 0, 1) := by decide +kernel
theorem dX12_layLines_11 : decode cX12_layLines 11 = .ok (.getfield 370, 3) := by decide +kernel
theorem dX12_layLines_14 : decode cX12_layLines 14 = .ok (.if_icmp .ge 49, 3) := by decide +kernel
theorem dX12_layLines_17 : decode cX12_layLines 17 = .ok (.aload_n 0, 1) := by decide +kernel
theorem dX12_layLines_18 : decode cX12_layLines 18 = .ok (.iload 4, 2) := by decide +kernel
theorem dX12_layLines_20 : decode cX12_layLines 20 = .ok (.invokevirtual 392, 3) := by decide +kernel
theorem dX12_layLines_23 : decode cX12_layLines 23 = .ok (.astore 5, 2) := by decide +kernel
theorem dX12_layLines_25 : decode cX12_layLines 25 = .ok (.aload 5, 2) := by decide +kernel
theorem dX12_layLines_27 : decode cX12_layLines 27 = .ok (.ifnull 30, 3) := by decide +kernel
theorem dX12_layLines_30 : decode cX12_layLines 30 = .ok (.aload 5, 2) := by decide +kernel
theorem dX12_layLines_32 : decode cX12_layLines 32 = .ok (.getfield 422, 3) := by decide +kernel
theorem dX12_layLines_35 : decode cX12_layLines 35 = .ok (.aload_n 2, 1) := by decide +kernel
theorem dX12_layLines_36 : decode cX12_layLines 36 = .ok (.getfield 186, 3) := by decide +kernel
theorem dX12_layLines_39 : decode cX12_layLines 39 = .ok (.if_icmp .ne 18, 3) := by decide +kernel
theorem dX12_layLines_42 : decode cX12_layLines 42 = .ok (.aload 5, 2) := by decide +kernel
theorem dX12_layLines_44 : decode cX12_layLines 44 = .ok (.iload_n 3, 1) := by decide +kernel
theorem dX12_layLines_45 : decode cX12_layLines 45 = .ok (.putfield 436, 3) := by decide +kernel
theorem dX12_layLines_48 : decode cX12_layLines 48 = .ok (.iinc 3 1, 3) := by decide +kernel
theorem dX12_layLines_51 : decode cX12_layLines 51 = .ok (.aload_n 1, 1) := by decide +kernel
theorem dX12_layLines_52 : decode cX12_layLines 52 = .ok (.iload 4, 2) := by decide +kernel
theorem dX12_layLines_54 : decode cX12_layLines 54 = .ok (.invokevirtual 478, 3) := by decide +kernel
theorem dX12_layLines_57 : decode cX12_layLines 57 = .ok (.iinc 4 1, 3) := by decide +kernel
theorem dX12_layLines_60 : decode cX12_layLines 60 = .ok (.goto (-52), 3) := by decide +kernel
theorem dX12_layLines_63 : decode cX12_layLines 63 = .ok (.return_, 1) := by decide +kernel
theorem dX12_takenLines_0 : decode cX12_takenLines 0 = .ok (.aload_n 1, 1) := by decide +kernel
theorem dX12_takenLines_1 : decode cX12_takenLines 1 = .ok (.getfield 240, 3) := by decide +kernel
theorem dX12_takenLines_4 : decode cX12_takenLines 4 = .ok (.ifCond .ne 8, 3) := by decide +kernel
theorem dX12_takenLines_7 : decode cX12_takenLines 7 = .ok (.aload_n 1, 1) := by decide +kernel
theorem dX12_takenLines_8 : decode cX12_takenLines 8 = .ok (.getfield 342, 3) := by decide +kernel
theorem dX12_takenLines_11 : decode cX12_takenLines 11 = .ok (.ireturn, 1) := by decide +kernel
theorem dX12_takenLines_12 : decode cX12_takenLines 12 = .ok (.aload_n 1, 1) := by decide +kernel
theorem dX12_takenLines_13 : decode cX12_takenLines 13 = .ok (.getfield 240, 3) := by decide +kernel
theorem dX12_takenLines_16 : decode cX12_takenLines 16 = .ok (.iconst 1, 1) := by decide +kernel
theorem dX12_takenLines_17 : decode cX12_takenLines 17 = .ok (.if_icmp .ne 7, 3) := by decide +kernel
theorem dX12_takenLines_20 : decode cX12_takenLines 20 = .ok (.iconst 1, 1) := by decide +kernel
theorem dX12_takenLines_21 : decode cX12_takenLines 21 = .ok (.goto 5, 3) := by decide +kernel
theorem dX12_takenLines_24 : decode cX12_takenLines 24 = .ok (.bipush 10, 2) := by decide +kernel
theorem dX12_takenLines_26 : decode cX12_takenLines 26 = .ok (.ireturn, 1) := by decide +kernel
theorem dX12_pageOf_0 : decode cX12_pageOf 0 = .ok (.iload_n 1, 1) := by decide +kernel
theorem dX12_pageOf_1 : decode cX12_pageOf 1 = .ok (.iconst (-1), 1) := by decide +kernel
theorem dX12_pageOf_2 : decode cX12_pageOf 2 = .ok (.if_icmp .ne 7, 3) := by decide +kernel
theorem dX12_pageOf_5 : decode cX12_pageOf 5 = .ok (.iconst (-1), 1) := by decide +kernel
theorem dX12_pageOf_6 : decode cX12_pageOf 6 = .ok (.goto 9, 3) := by decide +kernel
theorem dX12_pageOf_9 : decode cX12_pageOf 9 = .ok (.iload_n 1, 1) := by decide +kernel
theorem dX12_pageOf_10 : decode cX12_pageOf 10 = .ok (.bipush 40, 2) := by decide +kernel
theorem dX12_pageOf_12 : decode cX12_pageOf 12 = .ok (.idiv, 1) := by decide +kernel
theorem dX12_pageOf_13 : decode cX12_pageOf 13 = .ok (.iconst 1, 1) := by decide +kernel
theorem dX12_pageOf_14 : decode cX12_pageOf 14 = .ok (.iadd, 1) := by decide +kernel
theorem dX12_pageOf_15 : decode cX12_pageOf 15 = .ok (.ireturn, 1) := by decide +kernel
set_option maxRecDepth 20000 in
theorem ggX12_page_X12_entryAt : GoodIn wsX12_page wsX12_entryAt := goodIn_r _ [6, 7, 8, 31, 32, 33, 34, 35, 36, 37, 38, 39, 40, 41, 42, 43, 44, 45, 46, 47, 48, 49, 50] (by decide +kernel) (by decide +kernel)
set_option maxRecDepth 20000 in
theorem gX12_page_X12_entryAt : GoodIn wsX12_page (wsV RX12 189 RX12 yX12_entryAt wsX12_entryAt) := goodIn_app (goodIn_of _ (by decide +kernel)) ggX12_page_X12_entryAt
set_option maxRecDepth 20000 in
theorem ggX12_page_X12_pageOf : GoodIn wsX12_page wsX12_pageOf := goodIn_r _ [12] (by decide +kernel) (by decide +kernel)
set_option maxRecDepth 20000 in
theorem gX12_page_X12_pageOf : GoodIn wsX12_page (wsV RX12 439 RX12 yX12_pageOf wsX12_pageOf) := goodIn_app (goodIn_of _ (by decide +kernel)) ggX12_page_X12_pageOf
theorem dX12_page_0 : decode cX12_page 0 = .ok (.aload_n 0, 1) := by decide +kernel
theorem dX12_page_1 : decode cX12_page 1 = .ok (.iload_n 1, 1) := by decide +kernel
theorem dX12_page_2 : decode cX12_page 2 = .ok (.invokevirtual 189, 3) := by decide +kernel
theorem dX12_page_5 : decode cX12_page 5 = .ok (.astore_n 2, 1) := by decide +kernel
theorem dX12_page_6 : decode cX12_page 6 = .ok (.aload_n 2, 1) := by decide +kernel
theorem dX12_page_7 : decode cX12_page 7 = .ok (.ifnonnull 7, 3) := by decide +kernel
theorem dX12_page_10 : decode cX12_page 10 = .ok (.iconst (-1), 1) := by decide +kernel
theorem dX12_page_11 : decode cX12_page 11 = .ok (.goto 11, 3) := by decide +kernel
theorem dX12_page_14 : decode cX12_page 14 = .ok (.aload_n 0, 1) := by decide +kernel
theorem dX12_page_15 : decode cX12_page 15 = .ok (.aload_n 2, 1) := by decide +kernel
theorem dX12_page_16 : decode cX12_page 16 = .ok (.getfield 468, 3) := by decide +kernel
theorem dX12_page_19 : decode cX12_page 19 = .ok (.invokevirtual 439, 3) := by decide +kernel
theorem dX12_page_22 : decode cX12_page 22 = .ok (.ireturn, 1) := by decide +kernel
set_option maxRecDepth 20000 in
theorem ggX12_promise_X12_entryOfKind : GoodIn wsX12_promise wsX12_entryOfKind := goodIn_r _ [6, 7, 8, 9, 10, 5, 11, 12, 13, 42, 43, 44, 45, 46, 47, 48, 49, 50, 51, 52, 53, 54, 55, 56, 57, 58, 59, 60, 61, 62, 63, 64, 65, 66, 67, 68, 69, 70, 71, 72, 73, 74, 75, 76, 77, 78, 79] (by decide +kernel) (by decide +kernel)
set_option maxRecDepth 20000 in
theorem gX12_promise_X12_entryOfKind : GoodIn wsX12_promise (wsV RX12 243 RX12 yX12_entryOfKind wsX12_entryOfKind) := goodIn_app (goodIn_of _ (by decide +kernel)) ggX12_promise_X12_entryOfKind
set_option maxRecDepth 20000 in
theorem ggX12_promise_X12_isAway : GoodIn wsX12_promise wsX12_isAway := goodIn_r _ [17, 18, 19, 20, 5, 21, 22, 23, 24, 25, 26, 1, 27, 28, 29, 30, 31, 32, 42, 43, 44, 45, 46, 47, 48, 49, 50, 51, 52, 53, 54, 55, 56, 57, 58, 59, 60, 61, 62, 63, 64, 65, 66, 67, 68, 69, 70, 71, 72, 73, 74, 75, 76, 77, 78, 79] (by decide +kernel) (by decide +kernel)
set_option maxRecDepth 20000 in
theorem gX12_promise_X12_isAway : GoodIn wsX12_promise (wsV RX12 481 RX12 yX12_isAway wsX12_isAway) := goodIn_app (goodIn_of _ (by decide +kernel)) ggX12_promise_X12_isAway
set_option maxRecDepth 20000 in
theorem ggX12_promise_X12_endOf : GoodIn wsX12_promise wsX12_endOf := goodIn_r _ [36, 12, 7, 37, 8, 9, 10, 5, 11, 13, 60, 61, 62, 63, 64, 65, 66, 67, 68, 69, 70, 71, 72, 73, 74, 75, 76, 77, 78, 79, 42, 43, 44, 45, 46, 47, 48, 49, 50, 51, 52, 53, 54, 55, 56, 57, 58, 59] (by decide +kernel) (by decide +kernel)
set_option maxRecDepth 20000 in
theorem gX12_promise_X12_endOf : GoodIn wsX12_promise (wsV RX12 484 RX12 yX12_endOf wsX12_endOf) := goodIn_app (goodIn_of _ (by decide +kernel)) ggX12_promise_X12_endOf
set_option maxRecDepth 20000 in
theorem ggX12_promise_X12_isBrokenOnTheWay : GoodIn wsX12_promise wsX12_isBrokenOnTheWay := goodIn_r _ [41, 12, 7, 37, 14, 15, 16, 5, 17, 18, 19, 20, 21, 22, 23, 24, 25, 26, 1, 27, 28, 29, 30, 31, 32, 8, 9, 10, 11, 13, 60, 61, 62, 63, 64, 65, 66, 67, 68, 69, 70, 71, 72, 73, 74, 75, 76, 77, 78, 79, 42, 43, 44, 45, 46, 47, 48, 49, 50, 51, 52, 53, 54, 55, 56, 57, 58, 59] (by decide +kernel) (by decide +kernel)
set_option maxRecDepth 20000 in
theorem gX12_promise_X12_isBrokenOnTheWay : GoodIn wsX12_promise (wsV RX12 488 RX12 yX12_isBrokenOnTheWay wsX12_isBrokenOnTheWay) := goodIn_app (goodIn_of _ (by decide +kernel)) ggX12_promise_X12_isBrokenOnTheWay
theorem dX12_promise_0 : decode cX12_promise 0 = .ok (.aload_n 0, 1) := by decide +kernel
theorem dX12_promise_1 : decode cX12_promise 1 = .ok (.iload_n 1, 1) := by decide +kernel
theorem dX12_promise_2 : decode cX12_promise 2 = .ok (.iconst 1, 1) := by decide +kernel
theorem dX12_promise_3 : decode cX12_promise 3 = .ok (.invokevirtual 243, 3) := by decide +kernel
theorem dX12_promise_6 : decode cX12_promise 6 = .ok (.astore_n 2, 1) := by decide +kernel
theorem dX12_promise_7 : decode cX12_promise 7 = .ok (.aload_n 2, 1) := by decide +kernel
theorem dX12_promise_8 : decode cX12_promise 8 = .ok (.ifnull 11, 3) := by decide +kernel
theorem dX12_promise_11 : decode cX12_promise 11 = .ok (.aload_n 0, 1) := by decide +kernel
theorem dX12_promise_12 : decode cX12_promise 12 = .ok (.aload_n 2, 1) := by decide +kernel
theorem dX12_promise_13 : decode cX12_promise 13 = .ok (.invokevirtual 481, 3) := by decide +kernel
theorem dX12_promise_16 : decode cX12_promise 16 = .ok (.ifCond .eq 5, 3) := by decide +kernel
theorem dX12_promise_19 : decode cX12_promise 19 = .ok (.iconst (-1), 1) := by decide +kernel
theorem dX12_promise_20 : decode cX12_promise 20 = .ok (.ireturn, 1) := by decide +kernel
theorem dX12_promise_21 : decode cX12_promise 21 = .ok (.aload_n 0, 1) := by decide +kernel
theorem dX12_promise_22 : decode cX12_promise 22 = .ok (.aload_n 2, 1) := by decide +kernel
theorem dX12_promise_23 : decode cX12_promise 23 = .ok (.invokevirtual 484, 3) := by decide +kernel
theorem dX12_promise_26 : decode cX12_promise 26 = .ok (.astore_n 3, 1) := by decide +kernel
theorem dX12_promise_27 : decode cX12_promise 27 = .ok (.aload_n 3, 1) := by decide +kernel
theorem dX12_promise_28 : decode cX12_promise 28 = .ok (.ifnonnull 5, 3) := by decide +kernel
theorem dX12_promise_31 : decode cX12_promise 31 = .ok (.iconst 3, 1) := by decide +kernel
theorem dX12_promise_32 : decode cX12_promise 32 = .ok (.ireturn, 1) := by decide +kernel
theorem dX12_promise_33 : decode cX12_promise 33 = .ok (.aload_n 0, 1) := by decide +kernel
theorem dX12_promise_34 : decode cX12_promise 34 = .ok (.aload_n 3, 1) := by decide +kernel
theorem dX12_promise_35 : decode cX12_promise 35 = .ok (.invokevirtual 481, 3) := by decide +kernel
theorem dX12_promise_38 : decode cX12_promise 38 = .ok (.ifCond .ne 11, 3) := by decide +kernel
theorem dX12_promise_41 : decode cX12_promise 41 = .ok (.aload_n 0, 1) := by decide +kernel
theorem dX12_promise_42 : decode cX12_promise 42 = .ok (.aload_n 2, 1) := by decide +kernel
theorem dX12_promise_43 : decode cX12_promise 43 = .ok (.invokevirtual 488, 3) := by decide +kernel
theorem dX12_promise_46 : decode cX12_promise 46 = .ok (.ifCond .eq 5, 3) := by decide +kernel
theorem dX12_promise_49 : decode cX12_promise 49 = .ok (.iconst 2, 1) := by decide +kernel
theorem dX12_promise_50 : decode cX12_promise 50 = .ok (.ireturn, 1) := by decide +kernel
theorem dX12_promise_51 : decode cX12_promise 51 = .ok (.aload_n 3, 1) := by decide +kernel
theorem dX12_promise_52 : decode cX12_promise 52 = .ok (.getfield 247, 3) := by decide +kernel
theorem dX12_promise_55 : decode cX12_promise 55 = .ok (.iconst (-1), 1) := by decide +kernel
theorem dX12_promise_56 : decode cX12_promise 56 = .ok (.if_icmp .eq 7, 3) := by decide +kernel
theorem dX12_promise_59 : decode cX12_promise 59 = .ok (.iconst 0, 1) := by decide +kernel
theorem dX12_promise_60 : decode cX12_promise 60 = .ok (.goto 4, 3) := by decide +kernel
theorem dX12_promise_63 : decode cX12_promise 63 = .ok (.iconst 1, 1) := by decide +kernel
theorem dX12_promise_64 : decode cX12_promise 64 = .ok (.ireturn, 1) := by decide +kernel
set_option maxRecDepth 20000 in
theorem ggX12_isAway_X12_isStruck : GoodIn wsX12_isAway wsX12_isStruck := goodIn_r _ [5, 6, 18, 19, 20, 21, 22, 23, 24, 25, 26, 27, 28, 29, 30, 31, 32, 33, 34, 35] (by decide +kernel) (by decide +kernel)
set_option maxRecDepth 20000 in
theorem gX12_isAway_X12_isStruck : GoodIn wsX12_isAway (wsV RX12 319 RX12 yX12_isStruck wsX12_isStruck) := goodIn_app (goodIn_of _ (by decide +kernel)) ggX12_isAway_X12_isStruck
set_option maxRecDepth 20000 in
theorem ggX12_isAway_X12_isLater : GoodIn wsX12_isAway wsX12_isLater := goodIn_r _ [10, 11, 6, 12, 13, 14, 15, 4, 16, 17, 18, 19, 20, 21, 22, 23, 24, 25, 26, 27, 28, 29, 30, 31, 32, 33, 34, 35, 36, 37, 38, 39, 40, 41, 42, 43, 44, 45, 46, 47, 48, 49, 50, 51, 52, 53, 54, 55] (by decide +kernel) (by decide +kernel)
set_option maxRecDepth 20000 in
theorem gX12_isAway_X12_isLater : GoodIn wsX12_isAway (wsV RX12 256 RX12 yX12_isLater wsX12_isLater) := goodIn_app (goodIn_of _ (by decide +kernel)) ggX12_isAway_X12_isLater
theorem dX12_isAway_0 : decode cX12_isAway 0 = .ok (.aload_n 0, 1) := by decide +kernel
theorem dX12_isAway_1 : decode cX12_isAway 1 = .ok (.aload_n 1, 1) := by decide +kernel
theorem dX12_isAway_2 : decode cX12_isAway 2 = .ok (.invokevirtual 319, 3) := by decide +kernel
theorem dX12_isAway_5 : decode cX12_isAway 5 = .ok (.ifCond .ne 11, 3) := by decide +kernel
theorem dX12_isAway_8 : decode cX12_isAway 8 = .ok (.aload_n 0, 1) := by decide +kernel
theorem dX12_isAway_9 : decode cX12_isAway 9 = .ok (.aload_n 1, 1) := by decide +kernel
theorem dX12_isAway_10 : decode cX12_isAway 10 = .ok (.invokevirtual 256, 3) := by decide +kernel
theorem dX12_isAway_13 : decode cX12_isAway 13 = .ok (.ifCond .eq 7, 3) := by decide +kernel
theorem dX12_isAway_16 : decode cX12_isAway 16 = .ok (.iconst 1, 1) := by decide +kernel
theorem dX12_isAway_17 : decode cX12_isAway 17 = .ok (.goto 4, 3) := by decide +kernel
theorem dX12_isAway_20 : decode cX12_isAway 20 = .ok (.iconst 0, 1) := by decide +kernel
theorem dX12_isAway_21 : decode cX12_isAway 21 = .ok (.ireturn, 1) := by decide +kernel
set_option maxRecDepth 20000 in
theorem ggX12_endOf_X12_entryAt : GoodIn wsX12_endOf wsX12_entryAt := goodIn_r _ [8, 1, 9, 10, 11, 12, 13, 14, 15, 16, 17, 18, 19, 20, 21, 22, 23, 24, 25, 26, 27, 28, 29] (by decide +kernel) (by decide +kernel)
set_option maxRecDepth 20000 in
theorem gX12_endOf_X12_entryAt : GoodIn wsX12_endOf (wsV RX12 189 RX12 yX12_entryAt wsX12_entryAt) := goodIn_app (goodIn_of _ (by decide +kernel)) ggX12_endOf_X12_entryAt
theorem dX12_endOf_0 : decode cX12_endOf 0 = .ok (.aload_n 1, 1) := by decide +kernel
theorem dX12_endOf_1 : decode cX12_endOf 1 = .ok (.astore_n 2, 1) := by decide +kernel
theorem dX12_endOf_2 : decode cX12_endOf 2 = .ok (.iconst 0, 1) := by decide +kernel
theorem dX12_endOf_3 : decode cX12_endOf 3 = .ok (.istore_n 3, 1) := by decide +kernel
theorem dX12_endOf_4 : decode cX12_endOf 4 = .ok (.iload_n 3, 1) := by decide +kernel
theorem dX12_endOf_5 : decode cX12_endOf 5 = .ok (.aload_n 0, 1) := by decide +kernel
theorem dX12_endOf_6 : decode cX12_endOf 6 = .ok (.getfield 203, 3) := by decide +kernel
theorem dX12_endOf_9 : decode cX12_endOf 9 = .ok (.if_icmp .gt 32, 3) := by decide +kernel
theorem dX12_endOf_12 : decode cX12_endOf 12 = .ok (.aload_n 2, 1) := by decide +kernel
theorem dX12_endOf_13 : decode cX12_endOf 13 = .ok (.ifnull 28, 3) := by decide +kernel
theorem dX12_endOf_16 : decode cX12_endOf 16 = .ok (.aload_n 2, 1) := by decide +kernel
theorem dX12_endOf_17 : decode cX12_endOf 17 = .ok (.getfield 240, 3) := by decide +kernel
theorem dX12_endOf_20 : decode cX12_endOf 20 = .ok (.iconst 1, 1) := by decide +kernel
theorem dX12_endOf_21 : decode cX12_endOf 21 = .ok (.if_icmp .eq 5, 3) := by decide +kernel
theorem dX12_endOf_24 : decode cX12_endOf 24 = .ok (.aload_n 2, 1) := by decide +kernel
theorem dX12_endOf_25 : decode cX12_endOf 25 = .ok (.areturn, 1) := by decide +kernel
theorem dX12_endOf_26 : decode cX12_endOf 26 = .ok (.aload_n 0, 1) := by decide +kernel
theorem dX12_endOf_27 : decode cX12_endOf 27 = .ok (.aload_n 2, 1) := by decide +kernel
theorem dX12_endOf_28 : decode cX12_endOf 28 = .ok (.getfield 193, 3) := by decide +kernel
theorem dX12_endOf_31 : decode cX12_endOf 31 = .ok (.invokevirtual 189, 3) := by decide +kernel
theorem dX12_endOf_34 : decode cX12_endOf 34 = .ok (.astore_n 2, 1) := by decide +kernel
theorem dX12_endOf_35 : decode cX12_endOf 35 = .ok (.iinc 3 1, 3) := by decide +kernel
theorem dX12_endOf_38 : decode cX12_endOf 38 = .ok (.goto (-34), 3) := by decide +kernel
theorem dX12_endOf_41 : decode cX12_endOf 41 = .ok (.aconst_null, 1) := by decide +kernel
theorem dX12_endOf_42 : decode cX12_endOf 42 = .ok (.areturn, 1) := by decide +kernel
set_option maxRecDepth 20000 in
theorem ggX12_isBrokenOnTheWay_X12_isAway : GoodIn wsX12_isBrokenOnTheWay wsX12_isAway := goodIn_r _ [8, 9, 10, 11, 7, 12, 13, 14, 15, 16, 17, 18, 19, 20, 21, 22, 23, 24, 50, 51, 52, 53, 54, 55, 56, 57, 58, 59, 60, 61, 62, 63, 64, 65, 66, 67, 30, 31, 32, 33, 34, 35, 36, 37, 38, 39, 40, 41, 42, 43, 44, 45, 46, 47, 48, 49] (by decide +kernel) (by decide +kernel)
set_option maxRecDepth 20000 in
theorem gX12_isBrokenOnTheWay_X12_isAway : GoodIn wsX12_isBrokenOnTheWay (wsV RX12 481 RX12 yX12_isAway wsX12_isAway) := goodIn_app (goodIn_of _ (by decide +kernel)) ggX12_isBrokenOnTheWay_X12_isAway
set_option maxRecDepth 20000 in
theorem ggX12_isBrokenOnTheWay_X12_entryAt : GoodIn wsX12_isBrokenOnTheWay wsX12_entryAt := goodIn_r _ [28, 1, 29, 30, 31, 32, 33, 34, 35, 36, 37, 38, 39, 40, 41, 42, 43, 44, 45, 46, 47, 48, 49] (by decide +kernel) (by decide +kernel)
set_option maxRecDepth 20000 in
theorem gX12_isBrokenOnTheWay_X12_entryAt : GoodIn wsX12_isBrokenOnTheWay (wsV RX12 189 RX12 yX12_entryAt wsX12_entryAt) := goodIn_app (goodIn_of _ (by decide +kernel)) ggX12_isBrokenOnTheWay_X12_entryAt
theorem dX12_isBrokenOnTheWay_0 : decode cX12_isBrokenOnTheWay 0 = .ok (.aload_n 1, 1) := by decide +kernel
theorem dX12_isBrokenOnTheWay_1 : decode cX12_isBrokenOnTheWay 1 = .ok (.astore_n 2, 1) := by decide +kernel
theorem dX12_isBrokenOnTheWay_2 : decode cX12_isBrokenOnTheWay 2 = .ok (.iconst 0, 1) := by decide +kernel
theorem dX12_isBrokenOnTheWay_3 : decode cX12_isBrokenOnTheWay 3 = .ok (.istore_n 3, 1) := by decide +kernel
theorem dX12_isBrokenOnTheWay_4 : decode cX12_isBrokenOnTheWay 4 = .ok (.iload_n 3, 1) := by decide +kernel
theorem dX12_isBrokenOnTheWay_5 : decode cX12_isBrokenOnTheWay 5 = .ok (.aload_n 0, 1) := by decide +kernel
theorem dX12_isBrokenOnTheWay_6 : decode cX12_isBrokenOnTheWay 6 = .ok (.getfield 203, 3) := by decide +kernel
theorem dX12_isBrokenOnTheWay_9 : decode cX12_isBrokenOnTheWay 9 = .ok (.if_icmp .gt 40, 3) := by decide +kernel
theorem dX12_isBrokenOnTheWay_12 : decode cX12_isBrokenOnTheWay 12 = .ok (.aload_n 2, 1) := by decide +kernel
theorem dX12_isBrokenOnTheWay_13 : decode cX12_isBrokenOnTheWay 13 = .ok (.ifnull 36, 3) := by decide +kernel
theorem dX12_isBrokenOnTheWay_16 : decode cX12_isBrokenOnTheWay 16 = .ok (.aload_n 2, 1) := by decide +kernel
theorem dX12_isBrokenOnTheWay_17 : decode cX12_isBrokenOnTheWay 17 = .ok (.getfield 240, 3) := by decide +kernel
theorem dX12_isBrokenOnTheWay_20 : decode cX12_isBrokenOnTheWay 20 = .ok (.iconst 1, 1) := by decide +kernel
theorem dX12_isBrokenOnTheWay_21 : decode cX12_isBrokenOnTheWay 21 = .ok (.if_icmp .ne 28, 3) := by decide +kernel
theorem dX12_isBrokenOnTheWay_24 : decode cX12_isBrokenOnTheWay 24 = .ok (.aload_n 0, 1) := by decide +kernel
theorem dX12_isBrokenOnTheWay_25 : decode cX12_isBrokenOnTheWay 25 = .ok (.aload_n 2, 1) := by decide +kernel
theorem dX12_isBrokenOnTheWay_26 : decode cX12_isBrokenOnTheWay 26 = .ok (.invokevirtual 481, 3) := by decide +kernel
theorem dX12_isBrokenOnTheWay_29 : decode cX12_isBrokenOnTheWay 29 = .ok (.ifCond .eq 5, 3) := by decide +kernel
theorem dX12_isBrokenOnTheWay_32 : decode cX12_isBrokenOnTheWay 32 = .ok (.iconst 1, 1) := by decide +kernel
theorem dX12_isBrokenOnTheWay_33 : decode cX12_isBrokenOnTheWay 33 = .ok (.ireturn, 1) := by decide +kernel
theorem dX12_isBrokenOnTheWay_34 : decode cX12_isBrokenOnTheWay 34 = .ok (.aload_n 0, 1) := by decide +kernel
theorem dX12_isBrokenOnTheWay_35 : decode cX12_isBrokenOnTheWay 35 = .ok (.aload_n 2, 1) := by decide +kernel
theorem dX12_isBrokenOnTheWay_36 : decode cX12_isBrokenOnTheWay 36 = .ok (.getfield 193, 3) := by decide +kernel
theorem dX12_isBrokenOnTheWay_39 : decode cX12_isBrokenOnTheWay 39 = .ok (.invokevirtual 189, 3) := by decide +kernel
theorem dX12_isBrokenOnTheWay_42 : decode cX12_isBrokenOnTheWay 42 = .ok (.astore_n 2, 1) := by decide +kernel
theorem dX12_isBrokenOnTheWay_43 : decode cX12_isBrokenOnTheWay 43 = .ok (.iinc 3 1, 3) := by decide +kernel
theorem dX12_isBrokenOnTheWay_46 : decode cX12_isBrokenOnTheWay 46 = .ok (.goto (-42), 3) := by decide +kernel
theorem dX12_isBrokenOnTheWay_49 : decode cX12_isBrokenOnTheWay 49 = .ok (.iconst 0, 1) := by decide +kernel
theorem dX12_isBrokenOnTheWay_50 : decode cX12_isBrokenOnTheWay 50 = .ok (.ireturn, 1) := by decide +kernel
set_option maxRecDepth 20000 in
theorem ggX12_ends_X12_entryOfKind : GoodIn wsX12_ends wsX12_entryOfKind := goodIn_r _ [6, 7, 8, 9, 10, 5, 11, 12, 13, 19, 20, 21, 22, 23, 24, 25, 26, 27, 28, 29, 30, 31, 32, 33, 34, 35, 36, 37, 38, 39, 40, 41, 42, 43, 44, 45, 46, 47, 48, 49, 50, 51, 52, 53, 54, 55, 56] (by decide +kernel) (by decide +kernel)
set_option maxRecDepth 20000 in
theorem gX12_ends_X12_entryOfKind : GoodIn wsX12_ends (wsV RX12 243 RX12 yX12_entryOfKind wsX12_entryOfKind) := goodIn_app (goodIn_of _ (by decide +kernel)) ggX12_ends_X12_entryOfKind
set_option maxRecDepth 20000 in
theorem ggX12_ends_X12_endOf : GoodIn wsX12_ends wsX12_endOf := goodIn_r _ [17, 12, 7, 18, 8, 9, 10, 5, 11, 13, 37, 38, 39, 40, 41, 42, 43, 44, 45, 46, 47, 48, 49, 50, 51, 52, 53, 54, 55, 56, 19, 20, 21, 22, 23, 24, 25, 26, 27, 28, 29, 30, 31, 32, 33, 34, 35, 36] (by decide +kernel) (by decide +kernel)
set_option maxRecDepth 20000 in
theorem gX12_ends_X12_endOf : GoodIn wsX12_ends (wsV RX12 484 RX12 yX12_endOf wsX12_endOf) := goodIn_app (goodIn_of _ (by decide +kernel)) ggX12_ends_X12_endOf
theorem dX12_ends_0 : decode cX12_ends 0 = .ok (.aload_n 0, 1) := by decide +kernel
theorem dX12_ends_1 : decode cX12_ends 1 = .ok (.iload_n 1, 1) := by decide +kernel
theorem dX12_ends_2 : decode cX12_ends 2 = .ok (.iconst 1, 1) := by decide +kernel
theorem dX12_ends_3 : decode cX12_ends 3 = .ok (.invokevirtual 243, 3) := by decide +kernel
theorem dX12_ends_6 : decode cX12_ends 6 = .ok (.astore_n 2, 1) := by decide +kernel
theorem dX12_ends_7 : decode cX12_ends 7 = .ok (.aload_n 2, 1) := by decide +kernel
theorem dX12_ends_8 : decode cX12_ends 8 = .ok (.ifnonnull 7, 3) := by decide +kernel
theorem dX12_ends_11 : decode cX12_ends 11 = .ok (.aconst_null, 1) := by decide +kernel
theorem dX12_ends_12 : decode cX12_ends 12 = .ok (.goto 8, 3) := by decide +kernel
theorem dX12_ends_15 : decode cX12_ends 15 = .ok (.aload_n 0, 1) := by decide +kernel
theorem dX12_ends_16 : decode cX12_ends 16 = .ok (.aload_n 2, 1) := by decide +kernel
theorem dX12_ends_17 : decode cX12_ends 17 = .ok (.invokevirtual 484, 3) := by decide +kernel
theorem dX12_ends_20 : decode cX12_ends 20 = .ok (.astore_n 3, 1) := by decide +kernel
theorem dX12_ends_21 : decode cX12_ends 21 = .ok (.aload_n 3, 1) := by decide +kernel
theorem dX12_ends_22 : decode cX12_ends 22 = .ok (.ifnonnull 7, 3) := by decide +kernel
theorem dX12_ends_25 : decode cX12_ends 25 = .ok (.iconst (-1), 1) := by decide +kernel
theorem dX12_ends_26 : decode cX12_ends 26 = .ok (.goto 7, 3) := by decide +kernel
theorem dX12_ends_29 : decode cX12_ends 29 = .ok (.aload_n 3, 1) := by decide +kernel
theorem dX12_ends_30 : decode cX12_ends 30 = .ok (.getfield 186, 3) := by decide +kernel
