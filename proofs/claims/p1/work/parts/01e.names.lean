theorem dX13_isSkipped_157 : decode cX13_isSkipped 157 = .ok (.iinc 4 1, 3) := by decide +kernel
theorem dX13_isSkipped_160 : decode cX13_isSkipped 160 = .ok (.goto (-157), 3) := by decide +kernel
theorem dX13_isSkipped_163 : decode cX13_isSkipped 163 = .ok (.iconst 0, 1) := by decide +kernel
theorem dX13_isSkipped_164 : decode cX13_isSkipped 164 = .ok (.ireturn, 1) := by decide +kernel
set_option maxRecDepth 20000 in
theorem ggX13_key_X13_tells : GoodIn wsX13_key wsX13_tells := goodIn_r _ [8, 9, 10, 11, 7, 12, 13, 14, 15, 16, 17, 18, 19, 20, 21, 22, 23, 24, 25, 26, 27, 28, 29, 30, 31, 32, 33, 34, 35, 36, 37, 38, 39, 50, 51, 52, 53, 54, 55, 56, 57, 58, 59, 60, 61, 62, 63, 64, 65, 66, 67, 68, 69, 70, 71, 72, 73, 74, 75, 76, 77, 78, 79, 80, 81, 82, 83, 84, 85, 86, 87, 88, 89, 90, 91, 92, 93, 94, 95, 96, 97, 98, 99, 100, 101, 102, 103, 104, 105, 106, 107, 108, 109, 110, 111, 112, 113, 114, 115, 116, 117, 118, 119, 120, 121, 122, 123, 124, 125, 126, 127, 128, 129, 130, 131, 132, 133, 134, 135, 136, 137, 138, 139, 140, 141, 142, 143, 144, 145, 146, 147, 148, 149, 150, 151, 152, 153] (by decide +kernel) (by decide +kernel)
set_option maxRecDepth 20000 in
theorem gX13_key_X13_tells : GoodIn wsX13_key (wsV RX13 404 RX13 yX13_tells wsX13_tells) := goodIn_app (goodIn_of _ (by decide +kernel)) ggX13_key_X13_tells
set_option maxRecDepth 20000 in
theorem ggX13_key_X13_isSkipped : GoodIn wsX13_key wsX13_isSkipped := goodIn_r _ [43, 13, 15, 44, 17, 45, 46, 3, 50, 51, 52, 53, 54, 55, 56, 57, 58, 59, 60, 61, 62, 63, 64, 65, 66, 67, 68, 69, 70, 71, 72, 73, 74, 75, 76, 77, 78, 79, 80, 81, 82, 83, 84, 85, 86, 87, 88, 89, 90, 91, 92, 93, 94, 95, 96, 97, 98, 99, 100, 101, 102, 103, 104, 105, 106, 107, 108, 109, 110, 111, 112, 113, 114, 115, 116, 117, 118, 119, 120, 121, 122, 123, 124, 125, 126, 127, 128, 129, 130, 131, 132, 133, 134, 135, 136, 137, 138, 139, 140, 141, 142, 143, 144, 145, 146, 147, 148, 149, 150, 151, 152, 153] (by decide +kernel) (by decide +kernel)
set_option maxRecDepth 20000 in
theorem gX13_key_X13_isSkipped : GoodIn wsX13_key (wsV RX13 407 RX13 yX13_isSkipped wsX13_isSkipped) := goodIn_app (goodIn_of _ (by decide +kernel)) ggX13_key_X13_isSkipped
set_option maxRecDepth 20000 in
theorem ggX13_key_X13_isDigit : GoodIn wsX13_key wsX13_isDigit := goodIn_r _ [49] (by decide +kernel) (by decide +kernel)
set_option maxRecDepth 20000 in
theorem gX13_key_X13_isDigit : GoodIn wsX13_key (va_wsS RX13 292 yX13_isDigit wsX13_isDigit) := goodIn_app (goodIn_of _ (by decide +kernel)) ggX13_key_X13_isDigit
theorem dX13_key_0 : decode cX13_key 0 = .ok (.aload_n 0, 1) := by decide +kernel
theorem dX13_key_1 : decode cX13_key 1 = .ok (.iconst 0, 1) := by decide +kernel
theorem dX13_key_2 : decode cX13_key 2 = .ok (.iload_n 2, 1) := by decide +kernel
theorem dX13_key_3 : decode cX13_key 3 = .ok (.aload_n 0, 1) := by decide +kernel
theorem dX13_key_4 : decode cX13_key 4 = .ok (.getfield 383, 3) := by decide +kernel
theorem dX13_key_7 : decode cX13_key 7 = .ok (.invokevirtual 404, 3) := by decide +kernel
theorem dX13_key_10 : decode cX13_key 10 = .ok (.iconst 1, 1) := by decide +kernel
theorem dX13_key_11 : decode cX13_key 11 = .ok (.if_icmp .ne 7, 3) := by decide +kernel
theorem dX13_key_14 : decode cX13_key 14 = .ok (.iconst 1, 1) := by decide +kernel
theorem dX13_key_15 : decode cX13_key 15 = .ok (.goto 4, 3) := by decide +kernel
theorem dX13_key_18 : decode cX13_key 18 = .ok (.iconst 0, 1) := by decide +kernel
theorem dX13_key_19 : decode cX13_key 19 = .ok (.iload_n 3, 1) := by decide +kernel
theorem dX13_key_20 : decode cX13_key 20 = .ok (.iconst 3, 1) := by decide +kernel
theorem dX13_key_21 : decode cX13_key 21 = .ok (.if_icmp .ne 7, 3) := by decide +kernel
theorem dX13_key_24 : decode cX13_key 24 = .ok (.iconst 1, 1) := by decide +kernel
theorem dX13_key_25 : decode cX13_key 25 = .ok (.goto 4, 3) := by decide +kernel
theorem dX13_key_28 : decode cX13_key 28 = .ok (.iconst 0, 1) := by decide +kernel
theorem dX13_key_29 : decode cX13_key 29 = .ok (.if_icmp .eq 7, 3) := by decide +kernel
theorem dX13_key_32 : decode cX13_key 32 = .ok (.iconst 1, 1) := by decide +kernel
theorem dX13_key_33 : decode cX13_key 33 = .ok (.goto 4, 3) := by decide +kernel
theorem dX13_key_36 : decode cX13_key 36 = .ok (.iconst 0, 1) := by decide +kernel
theorem dX13_key_37 : decode cX13_key 37 = .ok (.istore 5, 2) := by decide +kernel
theorem dX13_key_39 : decode cX13_key 39 = .ok (.aload_n 0, 1) := by decide +kernel
theorem dX13_key_40 : decode cX13_key 40 = .ok (.iconst 1, 1) := by decide +kernel
theorem dX13_key_41 : decode cX13_key 41 = .ok (.iload_n 2, 1) := by decide +kernel
theorem dX13_key_42 : decode cX13_key 42 = .ok (.aload_n 0, 1) := by decide +kernel
theorem dX13_key_43 : decode cX13_key 43 = .ok (.getfield 383, 3) := by decide +kernel
theorem dX13_key_46 : decode cX13_key 46 = .ok (.invokevirtual 404, 3) := by decide +kernel
theorem dX13_key_49 : decode cX13_key 49 = .ok (.iconst 1, 1) := by decide +kernel
theorem dX13_key_50 : decode cX13_key 50 = .ok (.if_icmp .ne 7, 3) := by decide +kernel
theorem dX13_key_53 : decode cX13_key 53 = .ok (.iconst 1, 1) := by decide +kernel
theorem dX13_key_54 : decode cX13_key 54 = .ok (.goto 4, 3) := by decide +kernel
theorem dX13_key_57 : decode cX13_key 57 = .ok (.iconst 0, 1) := by decide +kernel
theorem dX13_key_58 : decode cX13_key 58 = .ok (.iload_n 3, 1) := by decide +kernel
theorem dX13_key_59 : decode cX13_key 59 = .ok (.iconst 2, 1) := by decide +kernel
theorem dX13_key_60 : decode cX13_key 60 = .ok (.if_icmp .ne 7, 3) := by decide +kernel
theorem dX13_key_63 : decode cX13_key 63 = .ok (.iconst 1, 1) := by decide +kernel
theorem dX13_key_64 : decode cX13_key 64 = .ok (.goto 4, 3) := by decide +kernel
theorem dX13_key_67 : decode cX13_key 67 = .ok (.iconst 0, 1) := by decide +kernel
theorem dX13_key_68 : decode cX13_key 68 = .ok (.if_icmp .eq 7, 3) := by decide +kernel
theorem dX13_key_71 : decode cX13_key 71 = .ok (.iconst 1, 1) := by decide +kernel
theorem dX13_key_72 : decode cX13_key 72 = .ok (.goto 4, 3) := by decide +kernel
theorem dX13_key_75 : decode cX13_key 75 = .ok (.iconst 0, 1) := by decide +kernel
theorem dX13_key_76 : decode cX13_key 76 = .ok (.istore 6, 2) := by decide +kernel
theorem dX13_key_78 : decode cX13_key 78 = .ok (.iconst 0, 1) := by decide +kernel
theorem dX13_key_79 : decode cX13_key 79 = .ok (.istore 7, 2) := by decide +kernel
theorem dX13_key_81 : decode cX13_key 81 = .ok (.iload 7, 2) := by decide +kernel
theorem dX13_key_83 : decode cX13_key 83 = .ok (.aload_n 0, 1) := by decide +kernel
theorem dX13_key_84 : decode cX13_key 84 = .ok (.getfield 87, 3) := by decide +kernel
theorem dX13_key_87 : decode cX13_key 87 = .ok (.iload_n 1, 1) := by decide +kernel
theorem dX13_key_88 : decode cX13_key 88 = .ok (.iaload, 1) := by decide +kernel
theorem dX13_key_89 : decode cX13_key 89 = .ok (.if_icmp .ge 26, 3) := by decide +kernel
theorem dX13_key_92 : decode cX13_key 92 = .ok (.aload_n 0, 1) := by decide +kernel
theorem dX13_key_93 : decode cX13_key 93 = .ok (.getfield 84, 3) := by decide +kernel
theorem dX13_key_96 : decode cX13_key 96 = .ok (.bipush 12, 2) := by decide +kernel
theorem dX13_key_98 : decode cX13_key 98 = .ok (.iload_n 1, 1) := by decide +kernel
theorem dX13_key_99 : decode cX13_key 99 = .ok (.imul, 1) := by decide +kernel
theorem dX13_key_100 : decode cX13_key 100 = .ok (.iload 7, 2) := by decide +kernel
theorem dX13_key_102 : decode cX13_key 102 = .ok (.iadd, 1) := by decide +kernel
theorem dX13_key_103 : decode cX13_key 103 = .ok (.baload, 1) := by decide +kernel
theorem dX13_key_104 : decode cX13_key 104 = .ok (.bipush 32, 2) := by decide +kernel
theorem dX13_key_106 : decode cX13_key 106 = .ok (.if_icmp .eq 9, 3) := by decide +kernel
theorem dX13_key_109 : decode cX13_key 109 = .ok (.iinc 7 1, 3) := by decide +kernel
theorem dX13_key_112 : decode cX13_key 112 = .ok (.goto (-31), 3) := by decide +kernel
theorem dX13_key_115 : decode cX13_key 115 = .ok (.iload_n 3, 1) := by decide +kernel
theorem dX13_key_116 : decode cX13_key 116 = .ok (.iconst 1, 1) := by decide +kernel
theorem dX13_key_117 : decode cX13_key 117 = .ok (.if_icmp .eq 29, 3) := by decide +kernel
theorem dX13_key_120 : decode cX13_key 120 = .ok (.iload 7, 2) := by decide +kernel
theorem dX13_key_122 : decode cX13_key 122 = .ok (.aload_n 0, 1) := by decide +kernel
theorem dX13_key_123 : decode cX13_key 123 = .ok (.getfield 87, 3) := by decide +kernel
theorem dX13_key_126 : decode cX13_key 126 = .ok (.iload_n 1, 1) := by decide +kernel
theorem dX13_key_127 : decode cX13_key 127 = .ok (.iaload, 1) := by decide +kernel
theorem dX13_key_128 : decode cX13_key 128 = .ok (.if_icmp .ge 18, 3) := by decide +kernel
theorem dX13_key_131 : decode cX13_key 131 = .ok (.aload_n 0, 1) := by decide +kernel
theorem dX13_key_132 : decode cX13_key 132 = .ok (.iload_n 1, 1) := by decide +kernel
theorem dX13_key_133 : decode cX13_key 133 = .ok (.iload 7, 2) := by decide +kernel
theorem dX13_key_135 : decode cX13_key 135 = .ok (.iload_n 2, 1) := by decide +kernel
theorem dX13_key_136 : decode cX13_key 136 = .ok (.invokevirtual 407, 3) := by decide +kernel
theorem dX13_key_139 : decode cX13_key 139 = .ok (.ifCond .eq 7, 3) := by decide +kernel
theorem dX13_key_142 : decode cX13_key 142 = .ok (.iconst 1, 1) := by decide +kernel
theorem dX13_key_143 : decode cX13_key 143 = .ok (.goto 4, 3) := by decide +kernel
theorem dX13_key_146 : decode cX13_key 146 = .ok (.iconst 0, 1) := by decide +kernel
theorem dX13_key_147 : decode cX13_key 147 = .ok (.istore 8, 2) := by decide +kernel
theorem dX13_key_149 : decode cX13_key 149 = .ok (.iload 8, 2) := by decide +kernel
theorem dX13_key_151 : decode cX13_key 151 = .ok (.ifCond .eq 10, 3) := by decide +kernel
theorem dX13_key_154 : decode cX13_key 154 = .ok (.iload 7, 2) := by decide +kernel
theorem dX13_key_156 : decode cX13_key 156 = .ok (.iconst 1, 1) := by decide +kernel
theorem dX13_key_157 : decode cX13_key 157 = .ok (.iadd, 1) := by decide +kernel
theorem dX13_key_158 : decode cX13_key 158 = .ok (.goto 4, 3) := by decide +kernel
theorem dX13_key_161 : decode cX13_key 161 = .ok (.iconst 0, 1) := by decide +kernel
theorem dX13_key_162 : decode cX13_key 162 = .ok (.istore 7, 2) := by decide +kernel
theorem dX13_key_164 : decode cX13_key 164 = .ok (.iconst 0, 1) := by decide +kernel
theorem dX13_key_165 : decode cX13_key 165 = .ok (.istore 9, 2) := by decide +kernel
theorem dX13_key_167 : decode cX13_key 167 = .ok (.iload 7, 2) := by decide +kernel
theorem dX13_key_169 : decode cX13_key 169 = .ok (.istore 10, 2) := by decide +kernel
theorem dX13_key_171 : decode cX13_key 171 = .ok (.iload 10, 2) := by decide +kernel
theorem dX13_key_173 : decode cX13_key 173 = .ok (.aload_n 0, 1) := by decide +kernel
theorem dX13_key_174 : decode cX13_key 174 = .ok (.getfield 87, 3) := by decide +kernel
theorem dX13_key_177 : decode cX13_key 177 = .ok (.iload_n 1, 1) := by decide +kernel
theorem dX13_key_178 : decode cX13_key 178 = .ok (.iaload, 1) := by decide +kernel
theorem dX13_key_179 : decode cX13_key 179 = .ok (.if_icmp .ge 102, 3) := by decide +kernel
theorem dX13_key_182 : decode cX13_key 182 = .ok (.aload_n 0, 1) := by decide +kernel
theorem dX13_key_183 : decode cX13_key 183 = .ok (.getfield 84, 3) := by decide +kernel
theorem dX13_key_186 : decode cX13_key 186 = .ok (.bipush 12, 2) := by decide +kernel
theorem dX13_key_188 : decode cX13_key 188 = .ok (.iload_n 1, 1) := by decide +kernel
theorem dX13_key_189 : decode cX13_key 189 = .ok (.imul, 1) := by decide +kernel
theorem dX13_key_190 : decode cX13_key 190 = .ok (.iload 10, 2) := by decide +kernel
theorem dX13_key_192 : decode cX13_key 192 = .ok (.iadd, 1) := by decide +kernel
theorem dX13_key_193 : decode cX13_key 193 = .ok (.baload, 1) := by decide +kernel
theorem dX13_key_194 : decode cX13_key 194 = .ok (.istore 11, 2) := by decide +kernel
theorem dX13_key_196 : decode cX13_key 196 = .ok (.iload 11, 2) := by decide +kernel
theorem dX13_key_198 : decode cX13_key 198 = .ok (.bipush 32, 2) := by decide +kernel
theorem dX13_key_200 : decode cX13_key 200 = .ok (.if_icmp .ne 11, 3) := by decide +kernel
theorem dX13_key_203 : decode cX13_key 203 = .ok (.iload 6, 2) := by decide +kernel
theorem dX13_key_205 : decode cX13_key 205 = .ok (.ifCond .ne 6, 3) := by decide +kernel
theorem dX13_key_208 : decode cX13_key 208 = .ok (.goto 67, 3) := by decide +kernel
theorem dX13_key_211 : decode cX13_key 211 = .ok (.aload 4, 2) := by decide +kernel
theorem dX13_key_213 : decode cX13_key 213 = .ok (.iload 9, 2) := by decide +kernel
theorem dX13_key_215 : decode cX13_key 215 = .ok (.iload 11, 2) := by decide +kernel
theorem dX13_key_217 : decode cX13_key 217 = .ok (.bipush 32, 2) := by decide +kernel
theorem dX13_key_219 : decode cX13_key 219 = .ok (.if_icmp .ne 7, 3) := by decide +kernel
theorem dX13_key_222 : decode cX13_key 222 = .ok (.iconst 0, 1) := by decide +kernel
theorem dX13_key_223 : decode cX13_key 223 = .ok (.goto 48, 3) := by decide +kernel
theorem dX13_key_226 : decode cX13_key 226 = .ok (.iload 11, 2) := by decide +kernel
theorem dX13_key_228 : decode cX13_key 228 = .ok (.invokestatic 292, 3) := by decide +kernel
theorem dX13_key_231 : decode cX13_key 231 = .ok (.ifCond .eq 23, 3) := by decide +kernel
theorem dX13_key_234 : decode cX13_key 234 = .ok (.iload 11, 2) := by decide +kernel
theorem dX13_key_236 : decode cX13_key 236 = .ok (.bipush 48, 2) := by decide +kernel
theorem dX13_key_238 : decode cX13_key 238 = .ok (.isub, 1) := by decide +kernel
theorem dX13_key_239 : decode cX13_key 239 = .ok (.iload 5, 2) := by decide +kernel
theorem dX13_key_241 : decode cX13_key 241 = .ok (.ifCond .eq 7, 3) := by decide +kernel
theorem dX13_key_244 : decode cX13_key 244 = .ok (.iconst 1, 1) := by decide +kernel
theorem dX13_key_245 : decode cX13_key 245 = .ok (.goto 5, 3) := by decide +kernel
theorem dX13_key_248 : decode cX13_key 248 = .ok (.bipush 27, 2) := by decide +kernel
theorem dX13_key_250 : decode cX13_key 250 = .ok (.iadd, 1) := by decide +kernel
theorem dX13_key_251 : decode cX13_key 251 = .ok (.goto 20, 3) := by decide +kernel
theorem dX13_key_254 : decode cX13_key 254 = .ok (.iload 11, 2) := by decide +kernel
theorem dX13_key_256 : decode cX13_key 256 = .ok (.bipush 97, 2) := by decide +kernel
theorem dX13_key_258 : decode cX13_key 258 = .ok (.isub, 1) := by decide +kernel
theorem dX13_key_259 : decode cX13_key 259 = .ok (.iload 5, 2) := by decide +kernel
theorem dX13_key_261 : decode cX13_key 261 = .ok (.ifCond .eq 8, 3) := by decide +kernel
theorem dX13_key_264 : decode cX13_key 264 = .ok (.bipush 11, 2) := by decide +kernel
theorem dX13_key_266 : decode cX13_key 266 = .ok (.goto 4, 3) := by decide +kernel
theorem dX13_key_269 : decode cX13_key 269 = .ok (.iconst 1, 1) := by decide +kernel
theorem dX13_key_270 : decode cX13_key 270 = .ok (.iadd, 1) := by decide +kernel
theorem dX13_key_271 : decode cX13_key 271 = .ok (.iastore, 1) := by decide +kernel
theorem dX13_key_272 : decode cX13_key 272 = .ok (.iinc 9 1, 3) := by decide +kernel
theorem dX13_key_275 : decode cX13_key 275 = .ok (.iinc 10 1, 3) := by decide +kernel
theorem dX13_key_278 : decode cX13_key 278 = .ok (.goto (-107), 3) := by decide +kernel
theorem dX13_key_281 : decode cX13_key 281 = .ok (.iload 9, 2) := by decide +kernel
theorem dX13_key_283 : decode cX13_key 283 = .ok (.ireturn, 1) := by decide +kernel
set_option maxRecDepth 20000 in
theorem ggX13_compared_X13_key : GoodIn wsX13_compared wsX13_key := goodIn_r _ [7, 8, 9, 10, 11, 12, 13, 6, 14, 15, 16, 17, 18, 19, 20, 21, 22, 23, 24, 25, 26, 27, 28, 29, 30, 31, 32, 33, 34, 35, 36, 37, 38, 39, 40, 41, 42, 43, 44, 45, 46, 47, 48, 49, 50, 51, 52, 53, 54, 55, 56, 57, 58, 59, 60, 61, 62, 63, 64, 65, 66, 67, 68, 69, 70, 71, 72, 73, 74, 75, 76, 77, 78, 79, 80, 81, 82, 83, 84, 85, 86, 87, 88, 89, 90, 91, 92, 93, 94, 95, 96, 97, 98, 99, 100, 101, 102, 103, 104, 105, 106, 107, 108, 109, 110, 111, 112, 113, 114, 115, 116, 117, 118, 119, 120, 121, 122, 123, 124, 125, 126, 127, 128, 129, 130, 131, 132, 133, 134, 135, 136, 137, 138, 139, 140, 141, 142, 143, 144, 145, 146, 147, 148, 149, 150, 151, 152, 153, 154, 155, 156, 157, 158, 159] (by decide +kernel) (by decide +kernel)
set_option maxRecDepth 20000 in
theorem gX13_compared_X13_key : GoodIn wsX13_compared (wsV RX13 410 RX13 yX13_key wsX13_key) := goodIn_app (goodIn_of _ (by decide +kernel)) ggX13_compared_X13_key
theorem dX13_compared_0 : decode cX13_compared 0 = .ok (.aload_n 0, 1) := by decide +kernel
theorem dX13_compared_1 : decode cX13_compared 1 = .ok (.iload_n 1, 1) := by decide +kernel
theorem dX13_compared_2 : decode cX13_compared 2 = .ok (.iload_n 3, 1) := by decide +kernel
theorem dX13_compared_3 : decode cX13_compared 3 = .ok (.iload 4, 2) := by decide +kernel
theorem dX13_compared_5 : decode cX13_compared 5 = .ok (.aload_n 0, 1) := by decide +kernel
theorem dX13_compared_6 : decode cX13_compared 6 = .ok (.getfield 201, 3) := by decide +kernel
theorem dX13_compared_9 : decode cX13_compared 9 = .ok (.invokevirtual 410, 3) := by decide +kernel
theorem dX13_compared_12 : decode cX13_compared 12 = .ok (.istore 5, 2) := by decide +kernel
theorem dX13_compared_14 : decode cX13_compared 14 = .ok (.aload_n 0, 1) := by decide +kernel
theorem dX13_compared_15 : decode cX13_compared 15 = .ok (.iload_n 2, 1) := by decide +kernel
theorem dX13_compared_16 : decode cX13_compared 16 = .ok (.iload_n 3, 1) := by decide +kernel
theorem dX13_compared_17 : decode cX13_compared 17 = .ok (.iload 4, 2) := by decide +kernel
theorem dX13_compared_19 : decode cX13_compared 19 = .ok (.aload_n 0, 1) := by decide +kernel
theorem dX13_compared_20 : decode cX13_compared 20 = .ok (.getfield 204, 3) := by decide +kernel
theorem dX13_compared_23 : decode cX13_compared 23 = .ok (.invokevirtual 410, 3) := by decide +kernel
theorem dX13_compared_26 : decode cX13_compared 26 = .ok (.istore 6, 2) := by decide +kernel
theorem dX13_compared_28 : decode cX13_compared 28 = .ok (.iconst 0, 1) := by decide +kernel
theorem dX13_compared_29 : decode cX13_compared 29 = .ok (.istore 7, 2) := by decide +kernel
theorem dX13_compared_31 : decode cX13_compared 31 = .ok (.iload 7, 2) := by decide +kernel
theorem dX13_compared_33 : decode cX13_compared 33 = .ok (.iload 5, 2) := by decide +kernel
theorem dX13_compared_35 : decode cX13_compared 35 = .ok (.if_icmp .ge 49, 3) := by decide +kernel
theorem dX13_compared_38 : decode cX13_compared 38 = .ok (.iload 7, 2) := by decide +kernel
theorem dX13_compared_40 : decode cX13_compared 40 = .ok (.iload 6, 2) := by decide +kernel
theorem dX13_compared_42 : decode cX13_compared 42 = .ok (.if_icmp .ge 42, 3) := by decide +kernel
theorem dX13_compared_45 : decode cX13_compared 45 = .ok (.aload_n 0, 1) := by decide +kernel
theorem dX13_compared_46 : decode cX13_compared 46 = .ok (.getfield 201, 3) := by decide +kernel
theorem dX13_compared_49 : decode cX13_compared 49 = .ok (.iload 7, 2) := by decide +kernel
theorem dX13_compared_51 : decode cX13_compared 51 = .ok (.iaload, 1) := by decide +kernel
theorem dX13_compared_52 : decode cX13_compared 52 = .ok (.aload_n 0, 1) := by decide +kernel
theorem dX13_compared_53 : decode cX13_compared 53 = .ok (.getfield 204, 3) := by decide +kernel
theorem dX13_compared_56 : decode cX13_compared 56 = .ok (.iload 7, 2) := by decide +kernel
theorem dX13_compared_58 : decode cX13_compared 58 = .ok (.iaload, 1) := by decide +kernel
theorem dX13_compared_59 : decode cX13_compared 59 = .ok (.if_icmp .eq 19, 3) := by decide +kernel
theorem dX13_compared_62 : decode cX13_compared 62 = .ok (.aload_n 0, 1) := by decide +kernel
theorem dX13_compared_63 : decode cX13_compared 63 = .ok (.getfield 201, 3) := by decide +kernel
theorem dX13_compared_66 : decode cX13_compared 66 = .ok (.iload 7, 2) := by decide +kernel
theorem dX13_compared_68 : decode cX13_compared 68 = .ok (.iaload, 1) := by decide +kernel
theorem dX13_compared_69 : decode cX13_compared 69 = .ok (.aload_n 0, 1) := by decide +kernel
theorem dX13_compared_70 : decode cX13_compared 70 = .ok (.getfield 204, 3) := by decide +kernel
theorem dX13_compared_73 : decode cX13_compared 73 = .ok (.iload 7, 2) := by decide +kernel
theorem dX13_compared_75 : decode cX13_compared 75 = .ok (.iaload, 1) := by decide +kernel
theorem dX13_compared_76 : decode cX13_compared 76 = .ok (.isub, 1) := by decide +kernel
theorem dX13_compared_77 : decode cX13_compared 77 = .ok (.ireturn, 1) := by decide +kernel
theorem dX13_compared_78 : decode cX13_compared 78 = .ok (.iinc 7 1, 3) := by decide +kernel
theorem dX13_compared_81 : decode cX13_compared 81 = .ok (.goto (-50), 3) := by decide +kernel
theorem dX13_compared_84 : decode cX13_compared 84 = .ok (.iload 5, 2) := by decide +kernel
theorem dX13_compared_86 : decode cX13_compared 86 = .ok (.iload 6, 2) := by decide +kernel
theorem dX13_compared_88 : decode cX13_compared 88 = .ok (.isub, 1) := by decide +kernel
theorem dX13_compared_89 : decode cX13_compared 89 = .ok (.ireturn, 1) := by decide +kernel
set_option maxRecDepth 20000 in
theorem ggX13_isAhead_X13_compared : GoodIn wsX13_isAhead wsX13_compared := goodIn_r _ [5, 6, 7, 8, 9, 10, 4, 11, 12, 13, 14, 15, 16, 17, 18, 19, 20, 21, 22, 23, 24, 25, 26, 27, 28, 29, 30, 31, 32, 33, 34, 35, 36, 37, 38, 39, 40, 41, 42, 43, 44, 45, 46, 47, 48, 49, 50, 51, 52, 53, 54, 55, 56, 57, 58, 59, 60, 61, 62, 63, 64, 65, 66, 67, 68, 69, 70, 71, 72, 73, 74, 75, 76, 77, 78, 79, 80, 81, 82, 83, 84, 85, 86, 87, 88, 89, 90, 91, 92, 93, 94, 95, 96, 97, 98, 99, 100, 101, 102, 103, 104, 105, 106, 107, 108, 109, 110, 111, 112, 113, 114, 115, 116, 117, 118, 119, 120, 121, 122, 123, 124, 125, 126, 127, 128, 129, 130, 131, 132, 133, 134, 135, 136, 137, 138, 139, 140, 141, 142, 143, 144, 145, 146, 147, 148, 149, 150, 151, 152, 153, 154, 155, 156, 157, 158, 159, 160, 161, 162, 163] (by decide +kernel) (by decide +kernel)
set_option maxRecDepth 20000 in
theorem gX13_isAhead_X13_compared : GoodIn wsX13_isAhead (wsV RX13 414 RX13 yX13_compared wsX13_compared) := goodIn_app (goodIn_of _ (by decide +kernel)) ggX13_isAhead_X13_compared
theorem dX13_isAhead_0 : decode cX13_isAhead 0 = .ok (.aload_n 0, 1) := by decide +kernel
theorem dX13_isAhead_1 : decode cX13_isAhead 1 = .ok (.iload_n 1, 1) := by decide +kernel
theorem dX13_isAhead_2 : decode cX13_isAhead 2 = .ok (.iload_n 2, 1) := by decide +kernel
theorem dX13_isAhead_3 : decode cX13_isAhead 3 = .ok (.iload_n 3, 1) := by decide +kernel
theorem dX13_isAhead_4 : decode cX13_isAhead 4 = .ok (.iload 4, 2) := by decide +kernel
theorem dX13_isAhead_6 : decode cX13_isAhead 6 = .ok (.invokevirtual 414, 3) := by decide +kernel
theorem dX13_isAhead_9 : decode cX13_isAhead 9 = .ok (.istore 5, 2) := by decide +kernel
theorem dX13_isAhead_11 : decode cX13_isAhead 11 = .ok (.iload 5, 2) := by decide +kernel
theorem dX13_isAhead_13 : decode cX13_isAhead 13 = .ok (.ifCond .lt 13, 3) := by decide +kernel
theorem dX13_isAhead_16 : decode cX13_isAhead 16 = .ok (.iload 5, 2) := by decide +kernel
theorem dX13_isAhead_18 : decode cX13_isAhead 18 = .ok (.ifCond .ne 12, 3) := by decide +kernel
theorem dX13_isAhead_21 : decode cX13_isAhead 21 = .ok (.iload_n 1, 1) := by decide +kernel
theorem dX13_isAhead_22 : decode cX13_isAhead 22 = .ok (.iload_n 2, 1) := by decide +kernel
theorem dX13_isAhead_23 : decode cX13_isAhead 23 = .ok (.if_icmp .ge 7, 3) := by decide +kernel
theorem dX13_isAhead_26 : decode cX13_isAhead 26 = .ok (.iconst 1, 1) := by decide +kernel
theorem dX13_isAhead_27 : decode cX13_isAhead 27 = .ok (.goto 4, 3) := by decide +kernel
theorem dX13_isAhead_30 : decode cX13_isAhead 30 = .ok (.iconst 0, 1) := by decide +kernel
theorem dX13_isAhead_31 : decode cX13_isAhead 31 = .ok (.ireturn, 1) := by decide +kernel
set_option maxRecDepth 20000 in
theorem ggX13_isEntry_X13_in : GoodIn wsX13_isEntry wsX13_in := goodIn_r _ [5] (by decide +kernel) (by decide +kernel)
set_option maxRecDepth 20000 in
theorem gX13_isEntry_X13_in : GoodIn wsX13_isEntry (va_wsS RX13 256 yX13_in wsX13_in) := goodIn_app (goodIn_of _ (by decide +kernel)) ggX13_isEntry_X13_in
theorem dX13_isEntry_0 : decode cX13_isEntry 0 = .ok (.iload_n 1, 1) := by decide +kernel
theorem dX13_isEntry_1 : decode cX13_isEntry 1 = .ok (.iconst 0, 1) := by decide +kernel
theorem dX13_isEntry_2 : decode cX13_isEntry 2 = .ok (.aload_n 0, 1) := by decide +kernel
theorem dX13_isEntry_3 : decode cX13_isEntry 3 = .ok (.getfield 418, 3) := by decide +kernel
theorem dX13_isEntry_6 : decode cX13_isEntry 6 = .ok (.iconst 1, 1) := by decide +kernel
theorem dX13_isEntry_7 : decode cX13_isEntry 7 = .ok (.isub, 1) := by decide +kernel
theorem dX13_isEntry_8 : decode cX13_isEntry 8 = .ok (.invokestatic 256, 3) := by decide +kernel
theorem dX13_isEntry_11 : decode cX13_isEntry 11 = .ok (.ireturn, 1) := by decide +kernel
set_option maxRecDepth 20000 in
theorem ggX13_isArticle_X13_isEntry : GoodIn wsX13_isArticle wsX13_isEntry := goodIn_r _ [6, 7, 8, 9, 5, 10, 11, 12, 13, 14, 15, 16, 17, 18, 19, 20, 21, 22, 23, 24, 25, 26, 27, 28, 29, 30, 31, 32, 33, 34, 35, 36, 37, 38, 39, 40, 41, 42, 43, 44, 45, 46, 47, 48, 49, 50, 51, 52, 53, 54, 55, 56, 57, 58, 59, 60, 61, 62, 63, 64, 65, 66, 67, 68, 69, 70, 71, 72, 73, 74, 75, 76, 77, 78, 79, 80, 81, 82, 83, 84, 85, 86, 87, 88, 89, 90, 91, 92, 93, 94, 95, 96, 97, 98, 99, 100, 101, 102, 103, 104, 105, 106, 107, 108, 109, 110, 111, 112, 113, 114] (by decide +kernel) (by decide +kernel)
set_option maxRecDepth 20000 in
theorem gX13_isArticle_X13_isEntry : GoodIn wsX13_isArticle (wsV RX13 421 RX13 yX13_isEntry wsX13_isEntry) := goodIn_app (goodIn_of _ (by decide +kernel)) ggX13_isArticle_X13_isEntry
theorem dX13_isArticle_0 : decode cX13_isArticle 0 = .ok (.aload_n 0, 1) := by decide +kernel
theorem dX13_isArticle_1 : decode cX13_isArticle 1 = .ok (.iload_n 1, 1) := by decide +kernel
theorem dX13_isArticle_2 : decode cX13_isArticle 2 = .ok (.invokevirtual 421, 3) := by decide +kernel
theorem dX13_isArticle_5 : decode cX13_isArticle 5 = .ok (.ifCond .eq 16, 3) := by decide +kernel
theorem dX13_isArticle_8 : decode cX13_isArticle 8 = .ok (.aload_n 0, 1) := by decide +kernel
theorem dX13_isArticle_9 : decode cX13_isArticle 9 = .ok (.getfield 90, 3) := by decide +kernel
theorem dX13_isArticle_12 : decode cX13_isArticle 12 = .ok (.iload_n 1, 1) := by decide +kernel
theorem dX13_isArticle_13 : decode cX13_isArticle 13 = .ok (.iaload, 1) := by decide +kernel
theorem dX13_isArticle_14 : decode cX13_isArticle 14 = .ok (.ifCond .ne 7, 3) := by decide +kernel
theorem dX13_isArticle_17 : decode cX13_isArticle 17 = .ok (.iconst 1, 1) := by decide +kernel
theorem dX13_isArticle_18 : decode cX13_isArticle 18 = .ok (.goto 4, 3) := by decide +kernel
theorem dX13_isArticle_21 : decode cX13_isArticle 21 = .ok (.iconst 0, 1) := by decide +kernel
theorem dX13_isArticle_22 : decode cX13_isArticle 22 = .ok (.ireturn, 1) := by decide +kernel
set_option maxRecDepth 20000 in
theorem ggX13_go_X13_in : GoodIn wsX13_go wsX13_in := goodIn_r _ [5] (by decide +kernel) (by decide +kernel)
set_option maxRecDepth 20000 in
theorem gX13_go_X13_in : GoodIn wsX13_go (va_wsS RX13 256 yX13_in wsX13_in) := goodIn_app (goodIn_of _ (by decide +kernel)) ggX13_go_X13_in
theorem dX13_go_0 : decode cX13_go 0 = .ok (.iload_n 1, 1) := by decide +kernel
theorem dX13_go_1 : decode cX13_go 1 = .ok (.iconst 0, 1) := by decide +kernel
theorem dX13_go_2 : decode cX13_go 2 = .ok (.sipush 300, 3) := by decide +kernel
theorem dX13_go_5 : decode cX13_go 5 = .ok (.invokestatic 256, 3) := by decide +kernel
theorem dX13_go_8 : decode cX13_go 8 = .ok (.ifCond .ne 5, 3) := by decide +kernel
theorem dX13_go_11 : decode cX13_go 11 = .ok (.iconst (-1), 1) := by decide +kernel
theorem dX13_go_12 : decode cX13_go 12 = .ok (.ireturn, 1) := by decide +kernel
theorem dX13_go_13 : decode cX13_go 13 = .ok (.aload_n 0, 1) := by decide +kernel
theorem dX13_go_14 : decode cX13_go 14 = .ok (.aload_n 0, 1) := by decide +kernel
theorem dX13_go_15 : decode cX13_go 15 = .ok (.getfield 383, 3) := by decide +kernel
theorem dX13_go_18 : decode cX13_go 18 = .ok (.iload_n 1, 1) := by decide +kernel
theorem dX13_go_19 : decode cX13_go 19 = .ok (.iadd, 1) := by decide +kernel
theorem dX13_go_20 : decode cX13_go 20 = .ok (.sipush 2000, 3) := by decide +kernel
theorem dX13_go_23 : decode cX13_go 23 = .ok (.if_icmp .le 9, 3) := by decide +kernel
theorem dX13_go_26 : decode cX13_go 26 = .ok (.sipush 2000, 3) := by decide +kernel
theorem dX13_go_29 : decode cX13_go 29 = .ok (.goto 9, 3) := by decide +kernel
theorem dX13_go_32 : decode cX13_go 32 = .ok (.aload_n 0, 1) := by decide +kernel
theorem dX13_go_33 : decode cX13_go 33 = .ok (.getfield 383, 3) := by decide +kernel
theorem dX13_go_36 : decode cX13_go 36 = .ok (.iload_n 1, 1) := by decide +kernel
theorem dX13_go_37 : decode cX13_go 37 = .ok (.iadd, 1) := by decide +kernel
theorem dX13_go_38 : decode cX13_go 38 = .ok (.putfield 383, 3) := by decide +kernel
theorem dX13_go_41 : decode cX13_go 41 = .ok (.aload_n 0, 1) := by decide +kernel
theorem dX13_go_42 : decode cX13_go 42 = .ok (.getfield 383, 3) := by decide +kernel
theorem dX13_go_45 : decode cX13_go 45 = .ok (.ireturn, 1) := by decide +kernel
set_option maxRecDepth 20000 in
theorem ggX13_bound_X13_in : GoodIn wsX13_bound wsX13_in := goodIn_r _ [6] (by decide +kernel) (by decide +kernel)
set_option maxRecDepth 20000 in
theorem gX13_bound_X13_in : GoodIn wsX13_bound (va_wsS RX13 256 yX13_in wsX13_in) := goodIn_app (goodIn_of _ (by decide +kernel)) ggX13_bound_X13_in
theorem dX13_bound_0 : decode cX13_bound 0 = .ok (.iload_n 1, 1) := by decide +kernel
theorem dX13_bound_1 : decode cX13_bound 1 = .ok (.iconst 0, 1) := by decide +kernel
theorem dX13_bound_2 : decode cX13_bound 2 = .ok (.iconst 4, 1) := by decide +kernel
theorem dX13_bound_3 : decode cX13_bound 3 = .ok (.invokestatic 256, 3) := by decide +kernel
theorem dX13_bound_6 : decode cX13_bound 6 = .ok (.ifCond .eq 44, 3) := by decide +kernel
theorem dX13_bound_9 : decode cX13_bound 9 = .ok (.iload_n 2, 1) := by decide +kernel
theorem dX13_bound_10 : decode cX13_bound 10 = .ok (.iload_n 1, 1) := by decide +kernel
theorem dX13_bound_11 : decode cX13_bound 11 = .ok (.ifCond .ne 7, 3) := by decide +kernel
theorem dX13_bound_14 : decode cX13_bound 14 = .ok (.iconst 0, 1) := by decide +kernel
theorem dX13_bound_15 : decode cX13_bound 15 = .ok (.goto 11, 3) := by decide +kernel
theorem dX13_bound_18 : decode cX13_bound 18 = .ok (.aload_n 0, 1) := by decide +kernel
theorem dX13_bound_19 : decode cX13_bound 19 = .ok (.getfield 65, 3) := by decide +kernel
theorem dX13_bound_22 : decode cX13_bound 22 = .ok (.iload_n 1, 1) := by decide +kernel
theorem dX13_bound_23 : decode cX13_bound 23 = .ok (.iconst 1, 1) := by decide +kernel
theorem dX13_bound_24 : decode cX13_bound 24 = .ok (.isub, 1) := by decide +kernel
theorem dX13_bound_25 : decode cX13_bound 25 = .ok (.iaload, 1) := by decide +kernel
theorem dX13_bound_26 : decode cX13_bound 26 = .ok (.iload_n 1, 1) := by decide +kernel
theorem dX13_bound_27 : decode cX13_bound 27 = .ok (.iconst 4, 1) := by decide +kernel
theorem dX13_bound_28 : decode cX13_bound 28 = .ok (.if_icmp .ne 8, 3) := by decide +kernel
theorem dX13_bound_31 : decode cX13_bound 31 = .ok (.bipush 25, 2) := by decide +kernel
theorem dX13_bound_33 : decode cX13_bound 33 = .ok (.goto 11, 3) := by decide +kernel
theorem dX13_bound_36 : decode cX13_bound 36 = .ok (.aload_n 0, 1) := by decide +kernel
theorem dX13_bound_37 : decode cX13_bound 37 = .ok (.getfield 65, 3) := by decide +kernel
theorem dX13_bound_40 : decode cX13_bound 40 = .ok (.iload_n 1, 1) := by decide +kernel
theorem dX13_bound_41 : decode cX13_bound 41 = .ok (.iconst 1, 1) := by decide +kernel
theorem dX13_bound_42 : decode cX13_bound 42 = .ok (.iadd, 1) := by decide +kernel
theorem dX13_bound_43 : decode cX13_bound 43 = .ok (.iaload, 1) := by decide +kernel
theorem dX13_bound_44 : decode cX13_bound 44 = .ok (.invokestatic 256, 3) := by decide +kernel
theorem dX13_bound_47 : decode cX13_bound 47 = .ok (.ifCond .ne 5, 3) := by decide +kernel
theorem dX13_bound_50 : decode cX13_bound 50 = .ok (.iconst 0, 1) := by decide +kernel
theorem dX13_bound_51 : decode cX13_bound 51 = .ok (.ireturn, 1) := by decide +kernel
theorem dX13_bound_52 : decode cX13_bound 52 = .ok (.iconst 0, 1) := by decide +kernel
theorem dX13_bound_53 : decode cX13_bound 53 = .ok (.istore_n 3, 1) := by decide +kernel
theorem dX13_bound_54 : decode cX13_bound 54 = .ok (.iload_n 3, 1) := by decide +kernel
theorem dX13_bound_55 : decode cX13_bound 55 = .ok (.bipush 6, 2) := by decide +kernel
theorem dX13_bound_57 : decode cX13_bound 57 = .ok (.if_icmp .ge 20, 3) := by decide +kernel
theorem dX13_bound_60 : decode cX13_bound 60 = .ok (.aload_n 0, 1) := by decide +kernel
theorem dX13_bound_61 : decode cX13_bound 61 = .ok (.getfield 68, 3) := by decide +kernel
theorem dX13_bound_64 : decode cX13_bound 64 = .ok (.iload_n 3, 1) := by decide +kernel
theorem dX13_bound_65 : decode cX13_bound 65 = .ok (.baload, 1) := by decide +kernel
theorem dX13_bound_66 : decode cX13_bound 66 = .ok (.ifCond .eq 5, 3) := by decide +kernel
theorem dX13_bound_69 : decode cX13_bound 69 = .ok (.iconst 0, 1) := by decide +kernel
theorem dX13_bound_70 : decode cX13_bound 70 = .ok (.ireturn, 1) := by decide +kernel
theorem dX13_bound_71 : decode cX13_bound 71 = .ok (.iinc 3 1, 3) := by decide +kernel
theorem dX13_bound_74 : decode cX13_bound 74 = .ok (.goto (-20), 3) := by decide +kernel
theorem dX13_bound_77 : decode cX13_bound 77 = .ok (.aload_n 0, 1) := by decide +kernel
theorem dX13_bound_78 : decode cX13_bound 78 = .ok (.getfield 65, 3) := by decide +kernel
theorem dX13_bound_81 : decode cX13_bound 81 = .ok (.iload_n 1, 1) := by decide +kernel
theorem dX13_bound_82 : decode cX13_bound 82 = .ok (.iload_n 2, 1) := by decide +kernel
theorem dX13_bound_83 : decode cX13_bound 83 = .ok (.iastore, 1) := by decide +kernel
theorem dX13_bound_84 : decode cX13_bound 84 = .ok (.iconst 1, 1) := by decide +kernel
theorem dX13_bound_85 : decode cX13_bound 85 = .ok (.ireturn, 1) := by decide +kernel
set_option maxRecDepth 20000 in
theorem ggX13_headingOf_X13_isLetter : GoodIn wsX13_headingOf wsX13_isLetter := goodIn_r _ [5] (by decide +kernel) (by decide +kernel)
set_option maxRecDepth 20000 in
theorem gX13_headingOf_X13_isLetter : GoodIn wsX13_headingOf (va_wsS RX13 284 yX13_isLetter wsX13_isLetter) := goodIn_app (goodIn_of _ (by decide +kernel)) ggX13_headingOf_X13_isLetter
set_option maxRecDepth 20000 in
theorem ggX13_headingOf_X13_isDigit : GoodIn wsX13_headingOf wsX13_isDigit := goodIn_r _ [8] (by decide +kernel) (by decide +kernel)
set_option maxRecDepth 20000 in
theorem gX13_headingOf_X13_isDigit : GoodIn wsX13_headingOf (va_wsS RX13 292 yX13_isDigit wsX13_isDigit) := goodIn_app (goodIn_of _ (by decide +kernel)) ggX13_headingOf_X13_isDigit
theorem dX13_headingOf_0 : decode cX13_headingOf 0 = .ok (.iconst 0, 1) := by decide +kernel
theorem dX13_headingOf_1 : decode cX13_headingOf 1 = .ok (.istore 4, 2) := by decide +kernel
theorem dX13_headingOf_3 : decode cX13_headingOf 3 = .ok (.iconst 0, 1) := by decide +kernel
theorem dX13_headingOf_4 : decode cX13_headingOf 4 = .ok (.istore 5, 2) := by decide +kernel
theorem dX13_headingOf_6 : decode cX13_headingOf 6 = .ok (.iconst 0, 1) := by decide +kernel
theorem dX13_headingOf_7 : decode cX13_headingOf 7 = .ok (.istore 6, 2) := by decide +kernel
theorem dX13_headingOf_9 : decode cX13_headingOf 9 = .ok (.iload 6, 2) := by decide +kernel
theorem dX13_headingOf_11 : decode cX13_headingOf 11 = .ok (.bipush 12, 2) := by decide +kernel
theorem dX13_headingOf_13 : decode cX13_headingOf 13 = .ok (.if_icmp .ge 133, 3) := by decide +kernel
theorem dX13_headingOf_16 : decode cX13_headingOf 16 = .ok (.iload 6, 2) := by decide +kernel
theorem dX13_headingOf_18 : decode cX13_headingOf 18 = .ok (.iconst 4, 1) := by decide +kernel
theorem dX13_headingOf_19 : decode cX13_headingOf 19 = .ok (.if_icmp .ge 7, 3) := by decide +kernel
theorem dX13_headingOf_22 : decode cX13_headingOf 22 = .ok (.iload_n 1, 1) := by decide +kernel
theorem dX13_headingOf_23 : decode cX13_headingOf 23 = .ok (.goto 15, 3) := by decide +kernel
theorem dX13_headingOf_26 : decode cX13_headingOf 26 = .ok (.iload 6, 2) := by decide +kernel
theorem dX13_headingOf_28 : decode cX13_headingOf 28 = .ok (.bipush 8, 2) := by decide +kernel
theorem dX13_headingOf_30 : decode cX13_headingOf 30 = .ok (.if_icmp .ge 7, 3) := by decide +kernel
theorem dX13_headingOf_33 : decode cX13_headingOf 33 = .ok (.iload_n 2, 1) := by decide +kernel
theorem dX13_headingOf_34 : decode cX13_headingOf 34 = .ok (.goto 4, 3) := by decide +kernel
theorem dX13_headingOf_37 : decode cX13_headingOf 37 = .ok (.iload_n 3, 1) := by decide +kernel
theorem dX13_headingOf_38 : decode cX13_headingOf 38 = .ok (.bipush 24, 2) := by decide +kernel
theorem dX13_headingOf_40 : decode cX13_headingOf 40 = .ok (.bipush 8, 2) := by decide +kernel
theorem dX13_headingOf_42 : decode cX13_headingOf 42 = .ok (.iload 6, 2) := by decide +kernel
theorem dX13_headingOf_44 : decode cX13_headingOf 44 = .ok (.iconst 4, 1) := by decide +kernel
theorem dX13_headingOf_45 : decode cX13_headingOf 45 = .ok (.irem, 1) := by decide +kernel
theorem dX13_headingOf_46 : decode cX13_headingOf 46 = .ok (.imul, 1) := by decide +kernel
theorem dX13_headingOf_47 : decode cX13_headingOf 47 = .ok (.isub, 1) := by decide +kernel
theorem dX13_headingOf_48 : decode cX13_headingOf 48 = .ok (.ishr, 1) := by decide +kernel
theorem dX13_headingOf_49 : decode cX13_headingOf 49 = .ok (.istore 7, 2) := by decide +kernel
theorem dX13_headingOf_51 : decode cX13_headingOf 51 = .ok (.aload_n 0, 1) := by decide +kernel
theorem dX13_headingOf_52 : decode cX13_headingOf 52 = .ok (.getfield 207, 3) := by decide +kernel
theorem dX13_headingOf_55 : decode cX13_headingOf 55 = .ok (.iload 6, 2) := by decide +kernel
theorem dX13_headingOf_57 : decode cX13_headingOf 57 = .ok (.iload 7, 2) := by decide +kernel
theorem dX13_headingOf_59 : decode cX13_headingOf 59 = .ok (.i2b, 1) := by decide +kernel
theorem dX13_headingOf_60 : decode cX13_headingOf 60 = .ok (.bastore, 1) := by decide +kernel
theorem dX13_headingOf_61 : decode cX13_headingOf 61 = .ok (.aload_n 0, 1) := by decide +kernel
theorem dX13_headingOf_62 : decode cX13_headingOf 62 = .ok (.getfield 207, 3) := by decide +kernel
theorem dX13_headingOf_65 : decode cX13_headingOf 65 = .ok (.iload 6, 2) := by decide +kernel
theorem dX13_headingOf_67 : decode cX13_headingOf 67 = .ok (.baload, 1) := by decide +kernel
theorem dX13_headingOf_68 : decode cX13_headingOf 68 = .ok (.istore 8, 2) := by decide +kernel
theorem dX13_headingOf_70 : decode cX13_headingOf 70 = .ok (.iload 8, 2) := by decide +kernel
theorem dX13_headingOf_72 : decode cX13_headingOf 72 = .ok (.ifCond .ne 9, 3) := by decide +kernel
theorem dX13_headingOf_75 : decode cX13_headingOf 75 = .ok (.iconst 1, 1) := by decide +kernel
theorem dX13_headingOf_76 : decode cX13_headingOf 76 = .ok (.istore 5, 2) := by decide +kernel
theorem dX13_headingOf_78 : decode cX13_headingOf 78 = .ok (.goto 62, 3) := by decide +kernel
theorem dX13_headingOf_81 : decode cX13_headingOf 81 = .ok (.iload 5, 2) := by decide +kernel
theorem dX13_headingOf_83 : decode cX13_headingOf 83 = .ok (.ifCond .ne 52, 3) := by decide +kernel
theorem dX13_headingOf_86 : decode cX13_headingOf 86 = .ok (.iload 8, 2) := by decide +kernel
theorem dX13_headingOf_88 : decode cX13_headingOf 88 = .ok (.bipush 32, 2) := by decide +kernel
theorem dX13_headingOf_90 : decode cX13_headingOf 90 = .ok (.if_icmp .eq 19, 3) := by decide +kernel
theorem dX13_headingOf_93 : decode cX13_headingOf 93 = .ok (.iload 8, 2) := by decide +kernel
theorem dX13_headingOf_95 : decode cX13_headingOf 95 = .ok (.invokestatic 284, 3) := by decide +kernel
theorem dX13_headingOf_98 : decode cX13_headingOf 98 = .ok (.ifCond .ne 11, 3) := by decide +kernel
theorem dX13_headingOf_101 : decode cX13_headingOf 101 = .ok (.iload 8, 2) := by decide +kernel
theorem dX13_headingOf_103 : decode cX13_headingOf 103 = .ok (.invokestatic 292, 3) := by decide +kernel
theorem dX13_headingOf_106 : decode cX13_headingOf 106 = .ok (.ifCond .eq 29, 3) := by decide +kernel
theorem dX13_headingOf_109 : decode cX13_headingOf 109 = .ok (.iload 8, 2) := by decide +kernel
theorem dX13_headingOf_111 : decode cX13_headingOf 111 = .ok (.bipush 32, 2) := by decide +kernel
theorem dX13_headingOf_113 : decode cX13_headingOf 113 = .ok (.if_icmp .ne 24, 3) := by decide +kernel
theorem dX13_headingOf_116 : decode cX13_headingOf 116 = .ok (.iload 6, 2) := by decide +kernel
theorem dX13_headingOf_118 : decode cX13_headingOf 118 = .ok (.ifCond .eq 17, 3) := by decide +kernel
theorem dX13_headingOf_121 : decode cX13_headingOf 121 = .ok (.aload_n 0, 1) := by decide +kernel
theorem dX13_headingOf_122 : decode cX13_headingOf 122 = .ok (.getfield 207, 3) := by decide +kernel
theorem dX13_headingOf_125 : decode cX13_headingOf 125 = .ok (.iload 6, 2) := by decide +kernel
theorem dX13_headingOf_127 : decode cX13_headingOf 127 = .ok (.iconst 1, 1) := by decide +kernel
theorem dX13_headingOf_128 : decode cX13_headingOf 128 = .ok (.isub, 1) := by decide +kernel
theorem dX13_headingOf_129 : decode cX13_headingOf 129 = .ok (.baload, 1) := by decide +kernel
theorem dX13_headingOf_130 : decode cX13_headingOf 130 = .ok (.bipush 32, 2) := by decide +kernel
theorem dX13_headingOf_132 : decode cX13_headingOf 132 = .ok (.if_icmp .ne 5, 3) := by decide +kernel
theorem dX13_headingOf_135 : decode cX13_headingOf 135 = .ok (.iconst 0, 1) := by decide +kernel
theorem dX13_headingOf_136 : decode cX13_headingOf 136 = .ok (.ireturn, 1) := by decide +kernel
theorem dX13_headingOf_137 : decode cX13_headingOf 137 = .ok (.iinc 4 1, 3) := by decide +kernel
theorem dX13_headingOf_140 : decode cX13_headingOf 140 = .ok (.iinc 6 1, 3) := by decide +kernel
theorem dX13_headingOf_143 : decode cX13_headingOf 143 = .ok (.goto (-134), 3) := by decide +kernel
theorem dX13_headingOf_146 : decode cX13_headingOf 146 = .ok (.iload 4, 2) := by decide +kernel
theorem dX13_headingOf_148 : decode cX13_headingOf 148 = .ok (.ifCond .le 21, 3) := by decide +kernel
theorem dX13_headingOf_151 : decode cX13_headingOf 151 = .ok (.aload_n 0, 1) := by decide +kernel
theorem dX13_headingOf_152 : decode cX13_headingOf 152 = .ok (.getfield 207, 3) := by decide +kernel
theorem dX13_headingOf_155 : decode cX13_headingOf 155 = .ok (.iload 4, 2) := by decide +kernel
theorem dX13_headingOf_157 : decode cX13_headingOf 157 = .ok (.iconst 1, 1) := by decide +kernel
theorem dX13_headingOf_158 : decode cX13_headingOf 158 = .ok (.isub, 1) := by decide +kernel
theorem dX13_headingOf_159 : decode cX13_headingOf 159 = .ok (.baload, 1) := by decide +kernel
theorem dX13_headingOf_160 : decode cX13_headingOf 160 = .ok (.bipush 32, 2) := by decide +kernel
theorem dX13_headingOf_162 : decode cX13_headingOf 162 = .ok (.if_icmp .ne 7, 3) := by decide +kernel
theorem dX13_headingOf_165 : decode cX13_headingOf 165 = .ok (.iconst 0, 1) := by decide +kernel
theorem dX13_headingOf_166 : decode cX13_headingOf 166 = .ok (.goto 5, 3) := by decide +kernel
theorem dX13_headingOf_169 : decode cX13_headingOf 169 = .ok (.iload 4, 2) := by decide +kernel
theorem dX13_headingOf_171 : decode cX13_headingOf 171 = .ok (.ireturn, 1) := by decide +kernel
theorem dX13_newEntry_0 : decode cX13_newEntry 0 = .ok (.aload_n 0, 1) := by decide +kernel
theorem dX13_newEntry_1 : decode cX13_newEntry 1 = .ok (.getfield 418, 3) := by decide +kernel
theorem dX13_newEntry_4 : decode cX13_newEntry 4 = .ok (.bipush 60, 2) := by decide +kernel
theorem dX13_newEntry_6 : decode cX13_newEntry 6 = .ok (.if_icmp .ne 5, 3) := by decide +kernel
theorem dX13_newEntry_9 : decode cX13_newEntry 9 = .ok (.iconst (-1), 1) := by decide +kernel
theorem dX13_newEntry_10 : decode cX13_newEntry 10 = .ok (.ireturn, 1) := by decide +kernel
theorem dX13_newEntry_11 : decode cX13_newEntry 11 = .ok (.iconst 0, 1) := by decide +kernel
theorem dX13_newEntry_12 : decode cX13_newEntry 12 = .ok (.istore_n 3, 1) := by decide +kernel
theorem dX13_newEntry_13 : decode cX13_newEntry 13 = .ok (.iload_n 3, 1) := by decide +kernel
theorem dX13_newEntry_14 : decode cX13_newEntry 14 = .ok (.bipush 12, 2) := by decide +kernel
theorem dX13_newEntry_16 : decode cX13_newEntry 16 = .ok (.if_icmp .ge 29, 3) := by decide +kernel
theorem dX13_newEntry_19 : decode cX13_newEntry 19 = .ok (.aload_n 0, 1) := by decide +kernel
theorem dX13_newEntry_20 : decode cX13_newEntry 20 = .ok (.getfield 84, 3) := by decide +kernel
theorem dX13_newEntry_23 : decode cX13_newEntry 23 = .ok (.bipush 12, 2) := by decide +kernel
theorem dX13_newEntry_25 : decode cX13_newEntry 25 = .ok (.aload_n 0, 1) := by decide +kernel
theorem dX13_newEntry_26 : decode cX13_newEntry 26 = .ok (.getfield 418, 3) := by decide +kernel
theorem dX13_newEntry_29 : decode cX13_newEntry 29 = .ok (.imul, 1) := by decide +kernel
theorem dX13_newEntry_30 : decode cX13_newEntry 30 = .ok (.iload_n 3, 1) := by decide +kernel
theorem dX13_newEntry_31 : decode cX13_newEntry 31 = .ok (.iadd, 1) := by decide +kernel
theorem dX13_newEntry_32 : decode cX13_newEntry 32 = .ok (.aload_n 0, 1) := by decide +kernel
theorem dX13_newEntry_33 : decode cX13_newEntry 33 = .ok (.getfield 207, 3) := by decide +kernel
theorem dX13_newEntry_36 : decode cX13_newEntry 36 = .ok (.iload_n 3, 1) := by decide +kernel
theorem dX13_newEntry_37 : decode cX13_newEntry 37 = .ok (.baload, 1) := by decide +kernel
theorem dX13_newEntry_38 : decode cX13_newEntry 38 = .ok (.bastore, 1) := by decide +kernel
theorem dX13_newEntry_39 : decode cX13_newEntry 39 = .ok (.iinc 3 1, 3) := by decide +kernel
theorem dX13_newEntry_42 : decode cX13_newEntry 42 = .ok (.goto (-29), 3) := by decide +kernel
theorem dX13_newEntry_45 : decode cX13_newEntry 45 = .ok (.aload_n 0, 1) := by decide +kernel
theorem dX13_newEntry_46 : decode cX13_newEntry 46 = .ok (.getfield 87, 3) := by decide +kernel
theorem dX13_newEntry_49 : decode cX13_newEntry 49 = .ok (.aload_n 0, 1) := by decide +kernel
theorem dX13_newEntry_50 : decode cX13_newEntry 50 = .ok (.getfield 418, 3) := by decide +kernel
theorem dX13_newEntry_53 : decode cX13_newEntry 53 = .ok (.iload_n 2, 1) := by decide +kernel
theorem dX13_newEntry_54 : decode cX13_newEntry 54 = .ok (.iastore, 1) := by decide +kernel
theorem dX13_newEntry_55 : decode cX13_newEntry 55 = .ok (.aload_n 0, 1) := by decide +kernel
theorem dX13_newEntry_56 : decode cX13_newEntry 56 = .ok (.getfield 90, 3) := by decide +kernel
theorem dX13_newEntry_59 : decode cX13_newEntry 59 = .ok (.aload_n 0, 1) := by decide +kernel
theorem dX13_newEntry_60 : decode cX13_newEntry 60 = .ok (.getfield 418, 3) := by decide +kernel
theorem dX13_newEntry_63 : decode cX13_newEntry 63 = .ok (.iload_n 1, 1) := by decide +kernel
theorem dX13_newEntry_64 : decode cX13_newEntry 64 = .ok (.iastore, 1) := by decide +kernel
theorem dX13_newEntry_65 : decode cX13_newEntry 65 = .ok (.aload_n 0, 1) := by decide +kernel
theorem dX13_newEntry_66 : decode cX13_newEntry 66 = .ok (.getfield 102, 3) := by decide +kernel
theorem dX13_newEntry_69 : decode cX13_newEntry 69 = .ok (.aload_n 0, 1) := by decide +kernel
theorem dX13_newEntry_70 : decode cX13_newEntry 70 = .ok (.getfield 418, 3) := by decide +kernel
theorem dX13_newEntry_73 : decode cX13_newEntry 73 = .ok (.iconst (-1), 1) := by decide +kernel
theorem dX13_newEntry_74 : decode cX13_newEntry 74 = .ok (.iastore, 1) := by decide +kernel
theorem dX13_newEntry_75 : decode cX13_newEntry 75 = .ok (.aload_n 0, 1) := by decide +kernel
theorem dX13_newEntry_76 : decode cX13_newEntry 76 = .ok (.getfield 105, 3) := by decide +kernel
theorem dX13_newEntry_79 : decode cX13_newEntry 79 = .ok (.aload_n 0, 1) := by decide +kernel
theorem dX13_newEntry_80 : decode cX13_newEntry 80 = .ok (.getfield 418, 3) := by decide +kernel
theorem dX13_newEntry_83 : decode cX13_newEntry 83 = .ok (.iconst (-1), 1) := by decide +kernel
theorem dX13_newEntry_84 : decode cX13_newEntry 84 = .ok (.iastore, 1) := by decide +kernel
theorem dX13_newEntry_85 : decode cX13_newEntry 85 = .ok (.aload_n 0, 1) := by decide +kernel
theorem dX13_newEntry_86 : decode cX13_newEntry 86 = .ok (.getfield 114, 3) := by decide +kernel
theorem dX13_newEntry_89 : decode cX13_newEntry 89 = .ok (.aload_n 0, 1) := by decide +kernel
theorem dX13_newEntry_90 : decode cX13_newEntry 90 = .ok (.getfield 418, 3) := by decide +kernel
theorem dX13_newEntry_93 : decode cX13_newEntry 93 = .ok (.iconst (-1), 1) := by decide +kernel
theorem dX13_newEntry_94 : decode cX13_newEntry 94 = .ok (.iastore, 1) := by decide +kernel
theorem dX13_newEntry_95 : decode cX13_newEntry 95 = .ok (.aload_n 0, 1) := by decide +kernel
theorem dX13_newEntry_96 : decode cX13_newEntry 96 = .ok (.getfield 117, 3) := by decide +kernel
theorem dX13_newEntry_99 : decode cX13_newEntry 99 = .ok (.aload_n 0, 1) := by decide +kernel
theorem dX13_newEntry_100 : decode cX13_newEntry 100 = .ok (.getfield 418, 3) := by decide +kernel
theorem dX13_newEntry_103 : decode cX13_newEntry 103 = .ok (.iconst (-1), 1) := by decide +kernel
theorem dX13_newEntry_104 : decode cX13_newEntry 104 = .ok (.iastore, 1) := by decide +kernel
theorem dX13_newEntry_105 : decode cX13_newEntry 105 = .ok (.aload_n 0, 1) := by decide +kernel
theorem dX13_newEntry_106 : decode cX13_newEntry 106 = .ok (.dup, 1) := by decide +kernel
theorem dX13_newEntry_107 : decode cX13_newEntry 107 = .ok (.getfield 418, 3) := by decide +kernel
theorem dX13_newEntry_110 : decode cX13_newEntry 110 = .ok (.iconst 1, 1) := by decide +kernel
theorem dX13_newEntry_111 : decode cX13_newEntry 111 = .ok (.iadd, 1) := by decide +kernel
theorem dX13_newEntry_112 : decode cX13_newEntry 112 = .ok (.putfield 418, 3) := by decide +kernel
theorem dX13_newEntry_115 : decode cX13_newEntry 115 = .ok (.aload_n 0, 1) := by decide +kernel
theorem dX13_newEntry_116 : decode cX13_newEntry 116 = .ok (.getfield 418, 3) := by decide +kernel
theorem dX13_newEntry_119 : decode cX13_newEntry 119 = .ok (.iconst 1, 1) := by decide +kernel
theorem dX13_newEntry_120 : decode cX13_newEntry 120 = .ok (.isub, 1) := by decide +kernel
theorem dX13_newEntry_121 : decode cX13_newEntry 121 = .ok (.ireturn, 1) := by decide +kernel
set_option maxRecDepth 20000 in
theorem ggX13_article_X13_headingOf : GoodIn wsX13_article wsX13_headingOf := goodIn_r _ [8, 9, 10, 11, 7, 12, 13, 14, 15, 31, 32, 33, 34, 35, 36, 37, 38, 39, 40, 41, 42, 43, 44, 45, 46, 47, 48, 49, 50, 51, 52, 53, 54, 55, 56, 57, 58, 59, 60, 61, 62, 63, 64, 65, 66, 67, 68, 69, 70, 71, 72, 73, 74, 75, 76, 77, 78, 79, 80, 81, 82, 83, 84, 85, 86, 87, 88, 89, 90, 91, 92, 93, 94, 95, 96, 97, 98, 99, 100, 101, 102, 103, 104, 105, 106, 107, 108, 109, 110, 111, 112, 113, 114, 115, 116, 117, 118, 119, 120, 121, 122, 123, 124, 125, 126, 127, 128, 129, 130, 131, 132, 133, 134] (by decide +kernel) (by decide +kernel)
set_option maxRecDepth 20000 in
theorem gX13_article_X13_headingOf : GoodIn wsX13_article (wsV RX13 424 RX13 yX13_headingOf wsX13_headingOf) := goodIn_app (goodIn_of _ (by decide +kernel)) ggX13_article_X13_headingOf
set_option maxRecDepth 20000 in
theorem ggX13_article_X13_in : GoodIn wsX13_article wsX13_in := goodIn_r _ [18] (by decide +kernel) (by decide +kernel)
set_option maxRecDepth 20000 in
theorem gX13_article_X13_in : GoodIn wsX13_article (va_wsS RX13 256 yX13_in wsX13_in) := goodIn_app (goodIn_of _ (by decide +kernel)) ggX13_article_X13_in
set_option maxRecDepth 20000 in
theorem ggX13_article_X13_newEntry : GoodIn wsX13_article wsX13_newEntry := goodIn_r _ [22, 23, 24, 9, 25, 26, 27, 28, 29, 30, 31, 32, 33, 34, 35, 36, 37, 38, 39, 40, 41, 42, 43, 44, 45, 46, 47, 48, 49, 50, 51, 52, 53, 54, 55, 56, 57, 58, 59, 60, 61, 62, 63, 64, 65, 66, 67, 68, 69, 70, 71, 72, 73, 74, 75, 76, 77, 78, 79, 80, 81, 82, 83, 84, 85, 86, 87, 88, 89, 90, 91, 92, 93, 94, 95, 96, 97, 98, 99, 100, 101, 102, 103, 104, 105, 106, 107, 108, 109, 110, 111, 112, 113, 114, 115, 116, 117, 118, 119, 120, 121, 122, 123, 124, 125, 126, 127, 128, 129, 130, 131, 132, 133, 134] (by decide +kernel) (by decide +kernel)
set_option maxRecDepth 20000 in
theorem gX13_article_X13_newEntry : GoodIn wsX13_article (wsV RX13 427 RX13 yX13_newEntry wsX13_newEntry) := goodIn_app (goodIn_of _ (by decide +kernel)) ggX13_article_X13_newEntry
theorem dX13_article_0 : decode cX13_article 0 = .ok (.aload_n 0, 1) := by decide +kernel
theorem dX13_article_1 : decode cX13_article 1 = .ok (.iload_n 1, 1) := by decide +kernel
theorem dX13_article_2 : decode cX13_article 2 = .ok (.iload_n 2, 1) := by decide +kernel
theorem dX13_article_3 : decode cX13_article 3 = .ok (.iload_n 3, 1) := by decide +kernel
theorem dX13_article_4 : decode cX13_article 4 = .ok (.invokevirtual 424, 3) := by decide +kernel
theorem dX13_article_7 : decode cX13_article 7 = .ok (.istore 5, 2) := by decide +kernel
theorem dX13_article_9 : decode cX13_article 9 = .ok (.iload 5, 2) := by decide +kernel
theorem dX13_article_11 : decode cX13_article 11 = .ok (.ifCond .eq 48, 3) := by decide +kernel
theorem dX13_article_14 : decode cX13_article 14 = .ok (.iload 4, 2) := by decide +kernel
theorem dX13_article_16 : decode cX13_article 16 = .ok (.ifCond .lt 43, 3) := by decide +kernel
theorem dX13_article_19 : decode cX13_article 19 = .ok (.iload 4, 2) := by decide +kernel
theorem dX13_article_21 : decode cX13_article 21 = .ok (.sipush 10000, 3) := by decide +kernel
theorem dX13_article_24 : decode cX13_article 24 = .ok (.idiv, 1) := by decide +kernel
theorem dX13_article_25 : decode cX13_article 25 = .ok (.iconst 2, 1) := by decide +kernel
theorem dX13_article_26 : decode cX13_article 26 = .ok (.if_icmp .gt 33, 3) := by decide +kernel
theorem dX13_article_29 : decode cX13_article 29 = .ok (.iload 4, 2) := by decide +kernel
theorem dX13_article_31 : decode cX13_article 31 = .ok (.sipush 1000, 3) := by decide +kernel
theorem dX13_article_34 : decode cX13_article 34 = .ok (.idiv, 1) := by decide +kernel
theorem dX13_article_35 : decode cX13_article 35 = .ok (.bipush 10, 2) := by decide +kernel
theorem dX13_article_37 : decode cX13_article 37 = .ok (.irem, 1) := by decide +kernel
theorem dX13_article_38 : decode cX13_article 38 = .ok (.bipush 8, 2) := by decide +kernel
theorem dX13_article_40 : decode cX13_article 40 = .ok (.if_icmp .ge 19, 3) := by decide +kernel
theorem dX13_article_43 : decode cX13_article 43 = .ok (.iload 4, 2) := by decide +kernel
theorem dX13_article_45 : decode cX13_article 45 = .ok (.sipush 1000, 3) := by decide +kernel
theorem dX13_article_48 : decode cX13_article 48 = .ok (.irem, 1) := by decide +kernel
theorem dX13_article_49 : decode cX13_article 49 = .ok (.iconst 1, 1) := by decide +kernel
theorem dX13_article_50 : decode cX13_article 50 = .ok (.sipush 200, 3) := by decide +kernel
theorem dX13_article_53 : decode cX13_article 53 = .ok (.invokestatic 256, 3) := by decide +kernel
theorem dX13_article_56 : decode cX13_article 56 = .ok (.ifCond .ne 5, 3) := by decide +kernel
theorem dX13_article_59 : decode cX13_article 59 = .ok (.iconst (-1), 1) := by decide +kernel
theorem dX13_article_60 : decode cX13_article 60 = .ok (.ireturn, 1) := by decide +kernel
theorem dX13_article_61 : decode cX13_article 61 = .ok (.aload_n 0, 1) := by decide +kernel
theorem dX13_article_62 : decode cX13_article 62 = .ok (.iconst 0, 1) := by decide +kernel
theorem dX13_article_63 : decode cX13_article 63 = .ok (.iload 5, 2) := by decide +kernel
theorem dX13_article_65 : decode cX13_article 65 = .ok (.invokevirtual 427, 3) := by decide +kernel
theorem dX13_article_68 : decode cX13_article 68 = .ok (.istore 6, 2) := by decide +kernel
theorem dX13_article_70 : decode cX13_article 70 = .ok (.iload 6, 2) := by decide +kernel
theorem dX13_article_72 : decode cX13_article 72 = .ok (.iconst (-1), 1) := by decide +kernel
theorem dX13_article_73 : decode cX13_article 73 = .ok (.if_icmp .ne 5, 3) := by decide +kernel
theorem dX13_article_76 : decode cX13_article 76 = .ok (.iconst (-1), 1) := by decide +kernel
theorem dX13_article_77 : decode cX13_article 77 = .ok (.ireturn, 1) := by decide +kernel
theorem dX13_article_78 : decode cX13_article 78 = .ok (.aload_n 0, 1) := by decide +kernel
theorem dX13_article_79 : decode cX13_article 79 = .ok (.getfield 93, 3) := by decide +kernel
theorem dX13_article_82 : decode cX13_article 82 = .ok (.iload 6, 2) := by decide +kernel
theorem dX13_article_84 : decode cX13_article 84 = .ok (.iload 4, 2) := by decide +kernel
theorem dX13_article_86 : decode cX13_article 86 = .ok (.sipush 10000, 3) := by decide +kernel
theorem dX13_article_89 : decode cX13_article 89 = .ok (.idiv, 1) := by decide +kernel
theorem dX13_article_90 : decode cX13_article 90 = .ok (.iastore, 1) := by decide +kernel
theorem dX13_article_91 : decode cX13_article 91 = .ok (.aload_n 0, 1) := by decide +kernel
theorem dX13_article_92 : decode cX13_article 92 = .ok (.getfield 96, 3) := by decide +kernel
theorem dX13_article_95 : decode cX13_article 95 = .ok (.iload 6, 2) := by decide +kernel
theorem dX13_article_97 : decode cX13_article 97 = .ok (.iload 4, 2) := by decide +kernel
theorem dX13_article_99 : decode cX13_article 99 = .ok (.sipush 1000, 3) := by decide +kernel
theorem dX13_article_102 : decode cX13_article 102 = .ok (.idiv, 1) := by decide +kernel
theorem dX13_article_103 : decode cX13_article 103 = .ok (.bipush 10, 2) := by decide +kernel
theorem dX13_article_105 : decode cX13_article 105 = .ok (.irem, 1) := by decide +kernel
theorem dX13_article_106 : decode cX13_article 106 = .ok (.iastore, 1) := by decide +kernel
theorem dX13_article_107 : decode cX13_article 107 = .ok (.aload_n 0, 1) := by decide +kernel
theorem dX13_article_108 : decode cX13_article 108 = .ok (.getfield 99, 3) := by decide +kernel
theorem dX13_article_111 : decode cX13_article 111 = .ok (.iload 6, 2) := by decide +kernel
theorem dX13_article_113 : decode cX13_article 113 = .ok (.iload 4, 2) := by decide +kernel
theorem dX13_article_115 : decode cX13_article 115 = .ok (.sipush 1000, 3) := by decide +kernel
theorem dX13_article_118 : decode cX13_article 118 = .ok (.irem, 1) := by decide +kernel
theorem dX13_article_119 : decode cX13_article 119 = .ok (.iastore, 1) := by decide +kernel
theorem dX13_article_120 : decode cX13_article 120 = .ok (.iload 6, 2) := by decide +kernel
theorem dX13_article_122 : decode cX13_article 122 = .ok (.ireturn, 1) := by decide +kernel
set_option maxRecDepth 20000 in
theorem ggX13_pointer_X13_headingOf : GoodIn wsX13_pointer wsX13_headingOf := goodIn_r _ [6, 7, 8, 9, 5, 10, 11, 12, 13, 32, 33, 34, 35, 36, 37, 38, 39, 40, 41, 42, 43, 44, 45, 46, 47, 48, 49, 50, 51, 52, 53, 54, 55, 56, 57, 58, 59, 60, 61, 62, 63, 64, 65, 66, 67, 68, 69, 70, 71, 72, 73, 74, 75, 76, 77, 78, 79, 80, 81, 82, 83, 84, 85, 86, 87, 88, 89, 90, 91, 92, 93, 94, 95, 96, 97, 98, 99, 100, 101, 102, 103, 104, 105, 106, 107, 108, 109, 110, 111, 112, 113, 114, 115, 116, 117, 118, 119, 120, 121, 122, 123, 124, 125, 126, 127, 128, 129, 130, 131, 132, 133, 134, 135] (by decide +kernel) (by decide +kernel)
set_option maxRecDepth 20000 in
theorem gX13_pointer_X13_headingOf : GoodIn wsX13_pointer (wsV RX13 424 RX13 yX13_headingOf wsX13_headingOf) := goodIn_app (goodIn_of _ (by decide +kernel)) ggX13_pointer_X13_headingOf
set_option maxRecDepth 20000 in
theorem ggX13_pointer_X13_isEntry : GoodIn wsX13_pointer wsX13_isEntry := goodIn_r _ [17, 18, 19, 20, 5, 21, 32, 33, 34, 35, 36, 37, 38, 39, 40, 41, 42, 43, 44, 45, 46, 47, 48, 49, 50, 51, 52, 53, 54, 55, 56, 57, 58, 59, 60, 61, 62, 63, 64, 65, 66, 67, 68, 69, 70, 71, 72, 73, 74, 75, 76, 77, 78, 79, 80, 81, 82, 83, 84, 85, 86, 87, 88, 89, 90, 91, 92, 93, 94, 95, 96, 97, 98, 99, 100, 101, 102, 103, 104, 105, 106, 107, 108, 109, 110, 111, 112, 113, 114, 115, 116, 117, 118, 119, 120, 121, 122, 123, 124, 125, 126, 127, 128, 129, 130, 131, 132, 133, 134, 135] (by decide +kernel) (by decide +kernel)
set_option maxRecDepth 20000 in
theorem gX13_pointer_X13_isEntry : GoodIn wsX13_pointer (wsV RX13 421 RX13 yX13_isEntry wsX13_isEntry) := goodIn_app (goodIn_of _ (by decide +kernel)) ggX13_pointer_X13_isEntry
set_option maxRecDepth 20000 in
theorem ggX13_pointer_X13_newEntry : GoodIn wsX13_pointer wsX13_newEntry := goodIn_r _ [25, 18, 26, 7, 27, 28, 1, 29, 30, 31, 32, 33, 34, 35, 36, 37, 38, 39, 40, 41, 42, 43, 44, 45, 46, 47, 48, 49, 50, 51, 52, 53, 54, 55, 56, 57, 58, 59, 60, 61, 62, 63, 64, 65, 66, 67, 68, 69, 70, 71, 72, 73, 74, 75, 76, 77, 78, 79, 80, 81, 82, 83, 84, 85, 86, 87, 88, 89, 90, 91, 92, 93, 94, 95, 96, 97, 98, 99, 100, 101, 102, 103, 104, 105, 106, 107, 108, 109, 110, 111, 112, 113, 114, 115, 116, 117, 118, 119, 120, 121, 122, 123, 124, 125, 126, 127, 128, 129, 130, 131, 132, 133, 134, 135] (by decide +kernel) (by decide +kernel)
set_option maxRecDepth 20000 in
theorem gX13_pointer_X13_newEntry : GoodIn wsX13_pointer (wsV RX13 427 RX13 yX13_newEntry wsX13_newEntry) := goodIn_app (goodIn_of _ (by decide +kernel)) ggX13_pointer_X13_newEntry
theorem dX13_pointer_0 : decode cX13_pointer 0 = .ok (.aload_n 0, 1) := by decide +kernel
theorem dX13_pointer_1 : decode cX13_pointer 1 = .ok (.iload_n 1, 1) := by decide +kernel
theorem dX13_pointer_2 : decode cX13_pointer 2 = .ok (.iload_n 2, 1) := by decide +kernel
theorem dX13_pointer_3 : decode cX13_pointer 3 = .ok (.iload_n 3, 1) := by decide +kernel
theorem dX13_pointer_4 : decode cX13_pointer 4 = .ok (.invokevirtual 424, 3) := by decide +kernel
theorem dX13_pointer_7 : decode cX13_pointer 7 = .ok (.istore 5, 2) := by decide +kernel
theorem dX13_pointer_9 : decode cX13_pointer 9 = .ok (.iload 5, 2) := by decide +kernel
theorem dX13_pointer_11 : decode cX13_pointer 11 = .ok (.ifCond .eq 12, 3) := by decide +kernel
theorem dX13_pointer_14 : decode cX13_pointer 14 = .ok (.aload_n 0, 1) := by decide +kernel
theorem dX13_pointer_15 : decode cX13_pointer 15 = .ok (.iload 4, 2) := by decide +kernel
theorem dX13_pointer_17 : decode cX13_pointer 17 = .ok (.invokevirtual 421, 3) := by decide +kernel
theorem dX13_pointer_20 : decode cX13_pointer 20 = .ok (.ifCond .ne 5, 3) := by decide +kernel
theorem dX13_pointer_23 : decode cX13_pointer 23 = .ok (.iconst (-1), 1) := by decide +kernel
theorem dX13_pointer_24 : decode cX13_pointer 24 = .ok (.ireturn, 1) := by decide +kernel
theorem dX13_pointer_25 : decode cX13_pointer 25 = .ok (.aload_n 0, 1) := by decide +kernel
theorem dX13_pointer_26 : decode cX13_pointer 26 = .ok (.iconst 1, 1) := by decide +kernel
theorem dX13_pointer_27 : decode cX13_pointer 27 = .ok (.iload 5, 2) := by decide +kernel
theorem dX13_pointer_29 : decode cX13_pointer 29 = .ok (.invokevirtual 427, 3) := by decide +kernel
theorem dX13_pointer_32 : decode cX13_pointer 32 = .ok (.istore 6, 2) := by decide +kernel
theorem dX13_pointer_34 : decode cX13_pointer 34 = .ok (.iload 6, 2) := by decide +kernel
theorem dX13_pointer_36 : decode cX13_pointer 36 = .ok (.iconst (-1), 1) := by decide +kernel
theorem dX13_pointer_37 : decode cX13_pointer 37 = .ok (.if_icmp .eq 12, 3) := by decide +kernel
theorem dX13_pointer_40 : decode cX13_pointer 40 = .ok (.aload_n 0, 1) := by decide +kernel
theorem dX13_pointer_41 : decode cX13_pointer 41 = .ok (.getfield 102, 3) := by decide +kernel
theorem dX13_pointer_44 : decode cX13_pointer 44 = .ok (.iload 6, 2) := by decide +kernel
theorem dX13_pointer_46 : decode cX13_pointer 46 = .ok (.iload 4, 2) := by decide +kernel
theorem dX13_pointer_48 : decode cX13_pointer 48 = .ok (.iastore, 1) := by decide +kernel
theorem dX13_pointer_49 : decode cX13_pointer 49 = .ok (.iload 6, 2) := by decide +kernel
theorem dX13_pointer_51 : decode cX13_pointer 51 = .ok (.ireturn, 1) := by decide +kernel
set_option maxRecDepth 20000 in
theorem ggX13_plate_X13_headingOf : GoodIn wsX13_plate wsX13_headingOf := goodIn_r _ [5, 6, 7, 8, 4, 9, 10, 11, 12, 32, 33, 34, 35, 36, 37, 38, 39, 40, 41, 42, 43, 44, 45, 46, 47, 48, 49, 50, 51, 52, 53, 54, 55, 56, 57, 58, 59, 60, 61, 62, 63, 64, 65, 66, 67, 68, 69, 70, 71, 72, 73, 74, 75, 76, 77, 78, 79, 80, 81, 82, 83, 84, 85, 86, 87, 88, 89, 90, 91, 92, 93, 94, 95, 96, 97, 98, 99, 100, 101, 102, 103, 104, 105, 106, 107, 108, 109, 110, 111, 112, 113, 114, 115, 116, 117, 118, 119, 120, 121, 122, 123, 124, 125, 126, 127, 128, 129, 130, 131, 132, 133, 134, 135] (by decide +kernel) (by decide +kernel)
set_option maxRecDepth 20000 in
theorem gX13_plate_X13_headingOf : GoodIn wsX13_plate (wsV RX13 424 RX13 yX13_headingOf wsX13_headingOf) := goodIn_app (goodIn_of _ (by decide +kernel)) ggX13_plate_X13_headingOf
set_option maxRecDepth 20000 in
theorem ggX13_plate_X13_in : GoodIn wsX13_plate wsX13_in := goodIn_r _ [15] (by decide +kernel) (by decide +kernel)
set_option maxRecDepth 20000 in
theorem gX13_plate_X13_in : GoodIn wsX13_plate (va_wsS RX13 256 yX13_in wsX13_in) := goodIn_app (goodIn_of _ (by decide +kernel)) ggX13_plate_X13_in
set_option maxRecDepth 20000 in
theorem ggX13_plate_X13_isEntry : GoodIn wsX13_plate wsX13_isEntry := goodIn_r _ [19, 20, 13, 14, 4, 15, 32, 33, 34, 35, 36, 37, 38, 39, 40, 41, 42, 43, 44, 45, 46, 47, 48, 49, 50, 51, 52, 53, 54, 55, 56, 57, 58, 59, 60, 61, 62, 63, 64, 65, 66, 67, 68, 69, 70, 71, 72, 73, 74, 75, 76, 77, 78, 79, 80, 81, 82, 83, 84, 85, 86, 87, 88, 89, 90, 91, 92, 93, 94, 95, 96, 97, 98, 99, 100, 101, 102, 103, 104, 105, 106, 107, 108, 109, 110, 111, 112, 113, 114, 115, 116, 117, 118, 119, 120, 121, 122, 123, 124, 125, 126, 127, 128, 129, 130, 131, 132, 133, 134, 135] (by decide +kernel) (by decide +kernel)
set_option maxRecDepth 20000 in
theorem gX13_plate_X13_isEntry : GoodIn wsX13_plate (wsV RX13 421 RX13 yX13_isEntry wsX13_isEntry) := goodIn_app (goodIn_of _ (by decide +kernel)) ggX13_plate_X13_isEntry
set_option maxRecDepth 20000 in
theorem ggX13_plate_X13_newEntry : GoodIn wsX13_plate wsX13_newEntry := goodIn_r _ [24, 20, 25, 6, 26, 27, 28, 29, 30, 31, 32, 33, 34, 35, 36, 37, 38, 39, 40, 41, 42, 43, 44, 45, 46, 47, 48, 49, 50, 51, 52, 53, 54, 55, 56, 57, 58, 59, 60, 61, 62, 63, 64, 65, 66, 67, 68, 69, 70, 71, 72, 73, 74, 75, 76, 77, 78, 79, 80, 81, 82, 83, 84, 85, 86, 87, 88, 89, 90, 91, 92, 93, 94, 95, 96, 97, 98, 99, 100, 101, 102, 103, 104, 105, 106, 107, 108, 109, 110, 111, 112, 113, 114, 115, 116, 117, 118, 119, 120, 121, 122, 123, 124, 125, 126, 127, 128, 129, 130, 131, 132, 133, 134, 135] (by decide +kernel) (by decide +kernel)
set_option maxRecDepth 20000 in
theorem gX13_plate_X13_newEntry : GoodIn wsX13_plate (wsV RX13 427 RX13 yX13_newEntry wsX13_newEntry) := goodIn_app (goodIn_of _ (by decide +kernel)) ggX13_plate_X13_newEntry
theorem dX13_plate_0 : decode cX13_plate 0 = .ok (.aload_n 0, 1) := by decide +kernel
theorem dX13_plate_1 : decode cX13_plate 1 = .ok (.iload_n 1, 1) := by decide +kernel
theorem dX13_plate_2 : decode cX13_plate 2 = .ok (.iload_n 2, 1) := by decide +kernel
theorem dX13_plate_3 : decode cX13_plate 3 = .ok (.iload_n 3, 1) := by decide +kernel
theorem dX13_plate_4 : decode cX13_plate 4 = .ok (.invokevirtual 424, 3) := by decide +kernel
theorem dX13_plate_7 : decode cX13_plate 7 = .ok (.istore 6, 2) := by decide +kernel
theorem dX13_plate_9 : decode cX13_plate 9 = .ok (.iload 6, 2) := by decide +kernel
theorem dX13_plate_11 : decode cX13_plate 11 = .ok (.ifCond .eq 18, 3) := by decide +kernel
theorem dX13_plate_14 : decode cX13_plate 14 = .ok (.iload 4, 2) := by decide +kernel
theorem dX13_plate_16 : decode cX13_plate 16 = .ok (.ifCond .lt 13, 3) := by decide +kernel
theorem dX13_plate_19 : decode cX13_plate 19 = .ok (.iload 5, 2) := by decide +kernel
theorem dX13_plate_21 : decode cX13_plate 21 = .ok (.iconst 1, 1) := by decide +kernel
theorem dX13_plate_22 : decode cX13_plate 22 = .ok (.iconst 4, 1) := by decide +kernel
theorem dX13_plate_23 : decode cX13_plate 23 = .ok (.invokestatic 256, 3) := by decide +kernel
theorem dX13_plate_26 : decode cX13_plate 26 = .ok (.ifCond .ne 5, 3) := by decide +kernel
theorem dX13_plate_29 : decode cX13_plate 29 = .ok (.iconst (-1), 1) := by decide +kernel
theorem dX13_plate_30 : decode cX13_plate 30 = .ok (.ireturn, 1) := by decide +kernel
theorem dX13_plate_31 : decode cX13_plate 31 = .ok (.iload 4, 2) := by decide +kernel
theorem dX13_plate_33 : decode cX13_plate 33 = .ok (.istore 7, 2) := by decide +kernel
theorem dX13_plate_35 : decode cX13_plate 35 = .ok (.iconst 0, 1) := by decide +kernel
theorem dX13_plate_36 : decode cX13_plate 36 = .ok (.istore 8, 2) := by decide +kernel
theorem dX13_plate_38 : decode cX13_plate 38 = .ok (.iload 8, 2) := by decide +kernel
theorem dX13_plate_40 : decode cX13_plate 40 = .ok (.iload 5, 2) := by decide +kernel
theorem dX13_plate_42 : decode cX13_plate 42 = .ok (.if_icmp .ge 78, 3) := by decide +kernel
theorem dX13_plate_45 : decode cX13_plate 45 = .ok (.aload_n 0, 1) := by decide +kernel
theorem dX13_plate_46 : decode cX13_plate 46 = .ok (.iload 7, 2) := by decide +kernel
theorem dX13_plate_48 : decode cX13_plate 48 = .ok (.bipush 100, 2) := by decide +kernel
theorem dX13_plate_50 : decode cX13_plate 50 = .ok (.irem, 1) := by decide +kernel
theorem dX13_plate_51 : decode cX13_plate 51 = .ok (.invokevirtual 421, 3) := by decide +kernel
theorem dX13_plate_54 : decode cX13_plate 54 = .ok (.ifCond .ne 5, 3) := by decide +kernel
theorem dX13_plate_57 : decode cX13_plate 57 = .ok (.iconst (-1), 1) := by decide +kernel
theorem dX13_plate_58 : decode cX13_plate 58 = .ok (.ireturn, 1) := by decide +kernel
theorem dX13_plate_59 : decode cX13_plate 59 = .ok (.iload 7, 2) := by decide +kernel
theorem dX13_plate_61 : decode cX13_plate 61 = .ok (.bipush 100, 2) := by decide +kernel
theorem dX13_plate_63 : decode cX13_plate 63 = .ok (.idiv, 1) := by decide +kernel
theorem dX13_plate_64 : decode cX13_plate 64 = .ok (.istore 9, 2) := by decide +kernel
theorem dX13_plate_66 : decode cX13_plate 66 = .ok (.iload 8, 2) := by decide +kernel
theorem dX13_plate_68 : decode cX13_plate 68 = .ok (.iconst 1, 1) := by decide +kernel
theorem dX13_plate_69 : decode cX13_plate 69 = .ok (.iadd, 1) := by decide +kernel
theorem dX13_plate_70 : decode cX13_plate 70 = .ok (.istore 10, 2) := by decide +kernel
theorem dX13_plate_72 : decode cX13_plate 72 = .ok (.iload 10, 2) := by decide +kernel
theorem dX13_plate_74 : decode cX13_plate 74 = .ok (.iload 5, 2) := by decide +kernel
theorem dX13_plate_76 : decode cX13_plate 76 = .ok (.if_icmp .ge 31, 3) := by decide +kernel
theorem dX13_plate_79 : decode cX13_plate 79 = .ok (.iload 9, 2) := by decide +kernel
theorem dX13_plate_81 : decode cX13_plate 81 = .ok (.bipush 100, 2) := by decide +kernel
theorem dX13_plate_83 : decode cX13_plate 83 = .ok (.irem, 1) := by decide +kernel
theorem dX13_plate_84 : decode cX13_plate 84 = .ok (.iload 7, 2) := by decide +kernel
theorem dX13_plate_86 : decode cX13_plate 86 = .ok (.bipush 100, 2) := by decide +kernel
theorem dX13_plate_88 : decode cX13_plate 88 = .ok (.irem, 1) := by decide +kernel
theorem dX13_plate_89 : decode cX13_plate 89 = .ok (.if_icmp .ne 5, 3) := by decide +kernel
theorem dX13_plate_92 : decode cX13_plate 92 = .ok (.iconst (-1), 1) := by decide +kernel
theorem dX13_plate_93 : decode cX13_plate 93 = .ok (.ireturn, 1) := by decide +kernel
theorem dX13_plate_94 : decode cX13_plate 94 = .ok (.iload 9, 2) := by decide +kernel
theorem dX13_plate_96 : decode cX13_plate 96 = .ok (.bipush 100, 2) := by decide +kernel
theorem dX13_plate_98 : decode cX13_plate 98 = .ok (.idiv, 1) := by decide +kernel
theorem dX13_plate_99 : decode cX13_plate 99 = .ok (.istore 9, 2) := by decide +kernel
theorem dX13_plate_101 : decode cX13_plate 101 = .ok (.iinc 10 1, 3) := by decide +kernel
theorem dX13_plate_104 : decode cX13_plate 104 = .ok (.goto (-32), 3) := by decide +kernel
theorem dX13_plate_107 : decode cX13_plate 107 = .ok (.iload 7, 2) := by decide +kernel
theorem dX13_plate_109 : decode cX13_plate 109 = .ok (.bipush 100, 2) := by decide +kernel
theorem dX13_plate_111 : decode cX13_plate 111 = .ok (.idiv, 1) := by decide +kernel
theorem dX13_plate_112 : decode cX13_plate 112 = .ok (.istore 7, 2) := by decide +kernel
theorem dX13_plate_114 : decode cX13_plate 114 = .ok (.iinc 8 1, 3) := by decide +kernel
theorem dX13_plate_117 : decode cX13_plate 117 = .ok (.goto (-79), 3) := by decide +kernel
theorem dX13_plate_120 : decode cX13_plate 120 = .ok (.iload 7, 2) := by decide +kernel
theorem dX13_plate_122 : decode cX13_plate 122 = .ok (.ifCond .le 7, 3) := by decide +kernel
theorem dX13_plate_125 : decode cX13_plate 125 = .ok (.iconst (-1), 1) := by decide +kernel
theorem dX13_plate_126 : decode cX13_plate 126 = .ok (.goto 10, 3) := by decide +kernel
theorem dX13_plate_129 : decode cX13_plate 129 = .ok (.aload_n 0, 1) := by decide +kernel
theorem dX13_plate_130 : decode cX13_plate 130 = .ok (.iconst 2, 1) := by decide +kernel
theorem dX13_plate_131 : decode cX13_plate 131 = .ok (.iload 6, 2) := by decide +kernel
theorem dX13_plate_133 : decode cX13_plate 133 = .ok (.invokevirtual 427, 3) := by decide +kernel
theorem dX13_plate_136 : decode cX13_plate 136 = .ok (.ireturn, 1) := by decide +kernel
set_option maxRecDepth 20000 in
theorem ggX13_points_X13_isEntry : GoodIn wsX13_points wsX13_isEntry := goodIn_r _ [8, 9, 10, 11, 7, 12, 13, 14, 15, 16, 17, 18, 19, 20, 21, 22, 23, 24, 25, 26, 27, 28, 29, 30, 31, 32, 33, 34, 35, 36, 37, 38, 39, 40, 41, 42, 43, 44, 45, 46, 47, 48, 49, 50, 51, 52, 53, 54, 55, 56, 57, 58, 59, 60, 61, 62, 63, 64, 65, 66, 67, 68, 69, 70, 71, 72, 73, 74, 75, 76, 77, 78, 79, 80, 81, 82, 83, 84, 85, 86, 87, 88, 89, 90, 91, 92, 93, 94, 95, 96, 97, 98, 99, 100, 101, 102, 103, 104, 105, 106, 107, 108, 109, 110, 111, 112, 113, 114, 115, 116] (by decide +kernel) (by decide +kernel)
set_option maxRecDepth 20000 in
theorem gX13_points_X13_isEntry : GoodIn wsX13_points (wsV RX13 421 RX13 yX13_isEntry wsX13_isEntry) := goodIn_app (goodIn_of _ (by decide +kernel)) ggX13_points_X13_isEntry
theorem dX13_points_0 : decode cX13_points 0 = .ok (.aload_n 0, 1) := by decide +kernel
theorem dX13_points_1 : decode cX13_points 1 = .ok (.iload_n 1, 1) := by decide +kernel
theorem dX13_points_2 : decode cX13_points 2 = .ok (.invokevirtual 421, 3) := by decide +kernel
theorem dX13_points_5 : decode cX13_points 5 = .ok (.ifCond .eq 31, 3) := by decide +kernel
theorem dX13_points_8 : decode cX13_points 8 = .ok (.aload_n 0, 1) := by decide +kernel
theorem dX13_points_9 : decode cX13_points 9 = .ok (.getfield 90, 3) := by decide +kernel
theorem dX13_points_12 : decode cX13_points 12 = .ok (.iload_n 1, 1) := by decide +kernel
theorem dX13_points_13 : decode cX13_points 13 = .ok (.iaload, 1) := by decide +kernel
theorem dX13_points_14 : decode cX13_points 14 = .ok (.iconst 1, 1) := by decide +kernel
theorem dX13_points_15 : decode cX13_points 15 = .ok (.if_icmp .ne 21, 3) := by decide +kernel
theorem dX13_points_18 : decode cX13_points 18 = .ok (.aload_n 0, 1) := by decide +kernel
theorem dX13_points_19 : decode cX13_points 19 = .ok (.getfield 114, 3) := by decide +kernel
theorem dX13_points_22 : decode cX13_points 22 = .ok (.iload_n 1, 1) := by decide +kernel
theorem dX13_points_23 : decode cX13_points 23 = .ok (.iaload, 1) := by decide +kernel
theorem dX13_points_24 : decode cX13_points 24 = .ok (.iconst (-1), 1) := by decide +kernel
theorem dX13_points_25 : decode cX13_points 25 = .ok (.if_icmp .ne 11, 3) := by decide +kernel
theorem dX13_points_28 : decode cX13_points 28 = .ok (.aload_n 0, 1) := by decide +kernel
theorem dX13_points_29 : decode cX13_points 29 = .ok (.iload_n 2, 1) := by decide +kernel
theorem dX13_points_30 : decode cX13_points 30 = .ok (.invokevirtual 421, 3) := by decide +kernel
theorem dX13_points_33 : decode cX13_points 33 = .ok (.ifCond .ne 5, 3) := by decide +kernel
theorem dX13_points_36 : decode cX13_points 36 = .ok (.iconst 0, 1) := by decide +kernel
theorem dX13_points_37 : decode cX13_points 37 = .ok (.ireturn, 1) := by decide +kernel
theorem dX13_points_38 : decode cX13_points 38 = .ok (.aload_n 0, 1) := by decide +kernel
theorem dX13_points_39 : decode cX13_points 39 = .ok (.getfield 102, 3) := by decide +kernel
theorem dX13_points_42 : decode cX13_points 42 = .ok (.iload_n 1, 1) := by decide +kernel
theorem dX13_points_43 : decode cX13_points 43 = .ok (.iload_n 2, 1) := by decide +kernel
theorem dX13_points_44 : decode cX13_points 44 = .ok (.iastore, 1) := by decide +kernel
theorem dX13_points_45 : decode cX13_points 45 = .ok (.iconst 1, 1) := by decide +kernel
theorem dX13_points_46 : decode cX13_points 46 = .ok (.ireturn, 1) := by decide +kernel
set_option maxRecDepth 20000 in
theorem ggX13_byKey_X13_key : GoodIn wsX13_byKey wsX13_key := goodIn_r _ [8, 2, 9, 10, 11, 12, 13, 7, 14, 15, 16, 17, 18, 19, 20, 21, 22, 23, 24, 25, 26, 27, 28, 29, 30, 31, 32, 33, 34, 35, 36, 37, 38, 39, 40, 41, 42, 43, 44, 45, 46, 47, 48, 49, 50, 51, 52, 53, 54, 55, 56, 57, 58, 59, 60, 61, 62, 63, 64, 65, 66, 67, 68, 69, 70, 71, 72, 73, 74, 75, 76, 77, 78, 79, 80, 81, 82, 83, 84, 85, 86, 87, 88, 89, 90, 91, 92, 93, 94, 95, 96, 97, 98, 99, 100, 101, 102, 103, 104, 105, 106, 107, 108, 109, 110, 111, 112, 113, 114, 115, 116, 117, 118, 119, 120, 121, 122, 123, 124, 125, 126, 127, 128, 129, 130, 131, 132, 133, 134, 135, 136, 137, 138, 139, 140, 141, 142, 143, 144, 145, 146, 147, 148, 149, 150, 151, 152, 153, 154, 155, 156, 157, 158, 159] (by decide +kernel) (by decide +kernel)
set_option maxRecDepth 20000 in
theorem gX13_byKey_X13_key : GoodIn wsX13_byKey (wsV RX13 410 RX13 yX13_key wsX13_key) := goodIn_app (goodIn_of _ (by decide +kernel)) ggX13_byKey_X13_key
set_option maxRecDepth 20000 in
theorem ggX13_byKey_X13_tells : GoodIn wsX13_byKey wsX13_tells := goodIn_r _ [14, 15, 16, 17, 7, 18, 19, 20, 21, 22, 23, 24, 25, 26, 27, 28, 29, 30, 31, 32, 33, 34, 35, 36, 37, 38, 39, 40, 41, 42, 43, 44, 45, 56, 57, 58, 59, 60, 61, 62, 63, 64, 65, 66, 67, 68, 69, 70, 71, 72, 73, 74, 75, 76, 77, 78, 79, 80, 81, 82, 83, 84, 85, 86, 87, 88, 89, 90, 91, 92, 93, 94, 95, 96, 97, 98, 99, 100, 101, 102, 103, 104, 105, 106, 107, 108, 109, 110, 111, 112, 113, 114, 115, 116, 117, 118, 119, 120, 121, 122, 123, 124, 125, 126, 127, 128, 129, 130, 131, 132, 133, 134, 135, 136, 137, 138, 139, 140, 141, 142, 143, 144, 145, 146, 147, 148, 149, 150, 151, 152, 153, 154, 155, 156, 157, 158, 159] (by decide +kernel) (by decide +kernel)
set_option maxRecDepth 20000 in
theorem gX13_byKey_X13_tells : GoodIn wsX13_byKey (wsV RX13 404 RX13 yX13_tells wsX13_tells) := goodIn_app (goodIn_of _ (by decide +kernel)) ggX13_byKey_X13_tells
theorem dX13_byKey_0 : decode cX13_byKey 0 = .ok (.aload_n 0, 1) := by decide +kernel
theorem dX13_byKey_1 : decode cX13_byKey 1 = .ok (.iload_n 1, 1) := by decide +kernel
theorem dX13_byKey_2 : decode cX13_byKey 2 = .ok (.bipush 6, 2) := by decide +kernel
theorem dX13_byKey_4 : decode cX13_byKey 4 = .ok (.iconst 0, 1) := by decide +kernel
theorem dX13_byKey_5 : decode cX13_byKey 5 = .ok (.aload_n 0, 1) := by decide +kernel
theorem dX13_byKey_6 : decode cX13_byKey 6 = .ok (.getfield 201, 3) := by decide +kernel
theorem dX13_byKey_9 : decode cX13_byKey 9 = .ok (.invokevirtual 410, 3) := by decide +kernel
theorem dX13_byKey_12 : decode cX13_byKey 12 = .ok (.pop, 1) := by decide +kernel
theorem dX13_byKey_13 : decode cX13_byKey 13 = .ok (.aload_n 0, 1) := by decide +kernel
theorem dX13_byKey_14 : decode cX13_byKey 14 = .ok (.iconst 0, 1) := by decide +kernel
theorem dX13_byKey_15 : decode cX13_byKey 15 = .ok (.bipush 6, 2) := by decide +kernel
theorem dX13_byKey_17 : decode cX13_byKey 17 = .ok (.aload_n 0, 1) := by decide +kernel
theorem dX13_byKey_18 : decode cX13_byKey 18 = .ok (.getfield 383, 3) := by decide +kernel
theorem dX13_byKey_21 : decode cX13_byKey 21 = .ok (.invokevirtual 404, 3) := by decide +kernel
theorem dX13_byKey_24 : decode cX13_byKey 24 = .ok (.iconst 1, 1) := by decide +kernel
theorem dX13_byKey_25 : decode cX13_byKey 25 = .ok (.if_icmp .ne 7, 3) := by decide +kernel
theorem dX13_byKey_28 : decode cX13_byKey 28 = .ok (.iconst 1, 1) := by decide +kernel
theorem dX13_byKey_29 : decode cX13_byKey 29 = .ok (.goto 4, 3) := by decide +kernel
theorem dX13_byKey_32 : decode cX13_byKey 32 = .ok (.iconst 0, 1) := by decide +kernel
theorem dX13_byKey_33 : decode cX13_byKey 33 = .ok (.istore_n 2, 1) := by decide +kernel
theorem dX13_byKey_34 : decode cX13_byKey 34 = .ok (.aload_n 0, 1) := by decide +kernel
theorem dX13_byKey_35 : decode cX13_byKey 35 = .ok (.getfield 201, 3) := by decide +kernel
theorem dX13_byKey_38 : decode cX13_byKey 38 = .ok (.iconst 0, 1) := by decide +kernel
theorem dX13_byKey_39 : decode cX13_byKey 39 = .ok (.iaload, 1) := by decide +kernel
theorem dX13_byKey_40 : decode cX13_byKey 40 = .ok (.istore_n 3, 1) := by decide +kernel
theorem dX13_byKey_41 : decode cX13_byKey 41 = .ok (.iload_n 2, 1) := by decide +kernel
theorem dX13_byKey_42 : decode cX13_byKey 42 = .ok (.ifCond .eq 17, 3) := by decide +kernel
theorem dX13_byKey_45 : decode cX13_byKey 45 = .ok (.iload_n 3, 1) := by decide +kernel
theorem dX13_byKey_46 : decode cX13_byKey 46 = .ok (.bipush 10, 2) := by decide +kernel
theorem dX13_byKey_48 : decode cX13_byKey 48 = .ok (.if_icmp .gt 7, 3) := by decide +kernel
theorem dX13_byKey_51 : decode cX13_byKey 51 = .ok (.iconst 1, 1) := by decide +kernel
theorem dX13_byKey_52 : decode cX13_byKey 52 = .ok (.goto 18, 3) := by decide +kernel
theorem dX13_byKey_55 : decode cX13_byKey 55 = .ok (.iconst 0, 1) := by decide +kernel
theorem dX13_byKey_56 : decode cX13_byKey 56 = .ok (.goto 14, 3) := by decide +kernel
theorem dX13_byKey_59 : decode cX13_byKey 59 = .ok (.iload_n 3, 1) := by decide +kernel
theorem dX13_byKey_60 : decode cX13_byKey 60 = .ok (.bipush 26, 2) := by decide +kernel
theorem dX13_byKey_62 : decode cX13_byKey 62 = .ok (.if_icmp .le 7, 3) := by decide +kernel
theorem dX13_byKey_65 : decode cX13_byKey 65 = .ok (.iconst 1, 1) := by decide +kernel
theorem dX13_byKey_66 : decode cX13_byKey 66 = .ok (.goto 4, 3) := by decide +kernel
theorem dX13_byKey_69 : decode cX13_byKey 69 = .ok (.iconst 0, 1) := by decide +kernel
theorem dX13_byKey_70 : decode cX13_byKey 70 = .ok (.istore 4, 2) := by decide +kernel
theorem dX13_byKey_72 : decode cX13_byKey 72 = .ok (.iload 4, 2) := by decide +kernel
theorem dX13_byKey_74 : decode cX13_byKey 74 = .ok (.ifCond .eq 13, 3) := by decide +kernel
theorem dX13_byKey_77 : decode cX13_byKey 77 = .ok (.iload_n 2, 1) := by decide +kernel
theorem dX13_byKey_78 : decode cX13_byKey 78 = .ok (.ifCond .eq 7, 3) := by decide +kernel
theorem dX13_byKey_81 : decode cX13_byKey 81 = .ok (.iconst 0, 1) := by decide +kernel
theorem dX13_byKey_82 : decode cX13_byKey 82 = .ok (.goto 4, 3) := by decide +kernel
theorem dX13_byKey_85 : decode cX13_byKey 85 = .ok (.iconst 5, 1) := by decide +kernel
theorem dX13_byKey_86 : decode cX13_byKey 86 = .ok (.ireturn, 1) := by decide +kernel
theorem dX13_byKey_87 : decode cX13_byKey 87 = .ok (.iload_n 2, 1) := by decide +kernel
theorem dX13_byKey_88 : decode cX13_byKey 88 = .ok (.ifCond .eq 10, 3) := by decide +kernel
theorem dX13_byKey_91 : decode cX13_byKey 91 = .ok (.iload_n 3, 1) := by decide +kernel
theorem dX13_byKey_92 : decode cX13_byKey 92 = .ok (.bipush 11, 2) := by decide +kernel
theorem dX13_byKey_94 : decode cX13_byKey 94 = .ok (.isub, 1) := by decide +kernel
theorem dX13_byKey_95 : decode cX13_byKey 95 = .ok (.goto 6, 3) := by decide +kernel
theorem dX13_byKey_98 : decode cX13_byKey 98 = .ok (.iload_n 3, 1) := by decide +kernel
theorem dX13_byKey_99 : decode cX13_byKey 99 = .ok (.iconst 1, 1) := by decide +kernel
theorem dX13_byKey_100 : decode cX13_byKey 100 = .ok (.isub, 1) := by decide +kernel
theorem dX13_byKey_101 : decode cX13_byKey 101 = .ok (.istore 5, 2) := by decide +kernel
theorem dX13_byKey_103 : decode cX13_byKey 103 = .ok (.iconst 0, 1) := by decide +kernel
theorem dX13_byKey_104 : decode cX13_byKey 104 = .ok (.istore 6, 2) := by decide +kernel
theorem dX13_byKey_106 : decode cX13_byKey 106 = .ok (.iload 6, 2) := by decide +kernel
theorem dX13_byKey_108 : decode cX13_byKey 108 = .ok (.iconst 5, 1) := by decide +kernel
theorem dX13_byKey_109 : decode cX13_byKey 109 = .ok (.if_icmp .ge 24, 3) := by decide +kernel
theorem dX13_byKey_112 : decode cX13_byKey 112 = .ok (.iload 5, 2) := by decide +kernel
theorem dX13_byKey_114 : decode cX13_byKey 114 = .ok (.aload_n 0, 1) := by decide +kernel
theorem dX13_byKey_115 : decode cX13_byKey 115 = .ok (.getfield 65, 3) := by decide +kernel
theorem dX13_byKey_118 : decode cX13_byKey 118 = .ok (.iload 6, 2) := by decide +kernel
theorem dX13_byKey_120 : decode cX13_byKey 120 = .ok (.iaload, 1) := by decide +kernel
theorem dX13_byKey_121 : decode cX13_byKey 121 = .ok (.if_icmp .gt 6, 3) := by decide +kernel
theorem dX13_byKey_124 : decode cX13_byKey 124 = .ok (.iload 6, 2) := by decide +kernel
theorem dX13_byKey_126 : decode cX13_byKey 126 = .ok (.ireturn, 1) := by decide +kernel
theorem dX13_byKey_127 : decode cX13_byKey 127 = .ok (.iinc 6 1, 3) := by decide +kernel
theorem dX13_byKey_130 : decode cX13_byKey 130 = .ok (.goto (-24), 3) := by decide +kernel
theorem dX13_byKey_133 : decode cX13_byKey 133 = .ok (.iconst 5, 1) := by decide +kernel
theorem dX13_byKey_134 : decode cX13_byKey 134 = .ok (.ireturn, 1) := by decide +kernel
set_option maxRecDepth 20000 in
theorem ggX13_volumeOf_X13_byKey : GoodIn wsX13_volumeOf wsX13_byKey := goodIn_r _ [8, 9, 10, 11, 12, 13, 14, 7, 15, 16, 17, 18, 19, 20, 21, 22, 23, 24, 25, 26, 27, 28, 29, 30, 31, 32, 33, 34, 35, 36, 37, 38, 39, 40, 41, 42, 43, 44, 45, 46, 47, 48, 49, 50, 51, 52, 53, 54, 55, 56, 57, 58, 59, 60, 61, 62, 63, 64, 65, 66, 67, 68, 69, 70, 71, 72, 73, 74, 75, 76, 77, 78, 79, 80, 81, 82, 83, 84, 85, 86, 87, 88, 89, 90, 91, 92, 93, 94, 95, 96, 97, 98, 99, 100, 101, 102, 103, 104, 105, 106, 107, 108, 109, 110, 111, 112, 113, 114, 115, 116, 117, 118, 119, 120, 121, 122, 123, 124, 125, 126, 127, 128, 129, 130, 131, 132, 133, 134, 135, 136, 137, 138, 139, 140, 141, 142, 143, 144, 145, 146, 147, 148, 149, 150, 151, 152, 153, 154, 155, 156, 157, 158, 159, 160, 161, 162, 163, 164, 165, 166] (by decide +kernel) (by decide +kernel)
set_option maxRecDepth 20000 in
theorem gX13_volumeOf_X13_byKey : GoodIn wsX13_volumeOf (wsV RX13 430 RX13 yX13_byKey wsX13_byKey) := goodIn_app (goodIn_of _ (by decide +kernel)) ggX13_volumeOf_X13_byKey
theorem dX13_volumeOf_0 : decode cX13_volumeOf 0 = .ok (.aload_n 0, 1) := by decide +kernel
theorem dX13_volumeOf_1 : decode cX13_volumeOf 1 = .ok (.getfield 114, 3) := by decide +kernel
theorem dX13_volumeOf_4 : decode cX13_volumeOf 4 = .ok (.iload_n 1, 1) := by decide +kernel
theorem dX13_volumeOf_5 : decode cX13_volumeOf 5 = .ok (.iaload, 1) := by decide +kernel
theorem dX13_volumeOf_6 : decode cX13_volumeOf 6 = .ok (.iconst (-1), 1) := by decide +kernel
theorem dX13_volumeOf_7 : decode cX13_volumeOf 7 = .ok (.if_icmp .eq 10, 3) := by decide +kernel
theorem dX13_volumeOf_10 : decode cX13_volumeOf 10 = .ok (.aload_n 0, 1) := by decide +kernel
theorem dX13_volumeOf_11 : decode cX13_volumeOf 11 = .ok (.getfield 114, 3) := by decide +kernel
theorem dX13_volumeOf_14 : decode cX13_volumeOf 14 = .ok (.iload_n 1, 1) := by decide +kernel
theorem dX13_volumeOf_15 : decode cX13_volumeOf 15 = .ok (.iaload, 1) := by decide +kernel
theorem dX13_volumeOf_16 : decode cX13_volumeOf 16 = .ok (.ireturn, 1) := by decide +kernel
theorem dX13_volumeOf_17 : decode cX13_volumeOf 17 = .ok (.aload_n 0, 1) := by decide +kernel
theorem dX13_volumeOf_18 : decode cX13_volumeOf 18 = .ok (.getfield 111, 3) := by decide +kernel
theorem dX13_volumeOf_21 : decode cX13_volumeOf 21 = .ok (.iload_n 1, 1) := by decide +kernel
theorem dX13_volumeOf_22 : decode cX13_volumeOf 22 = .ok (.baload, 1) := by decide +kernel
theorem dX13_volumeOf_23 : decode cX13_volumeOf 23 = .ok (.ifCond .eq 6, 3) := by decide +kernel
theorem dX13_volumeOf_26 : decode cX13_volumeOf 26 = .ok (.bipush 6, 2) := by decide +kernel
theorem dX13_volumeOf_28 : decode cX13_volumeOf 28 = .ok (.ireturn, 1) := by decide +kernel
theorem dX13_volumeOf_29 : decode cX13_volumeOf 29 = .ok (.aload_n 0, 1) := by decide +kernel
theorem dX13_volumeOf_30 : decode cX13_volumeOf 30 = .ok (.iload_n 1, 1) := by decide +kernel
theorem dX13_volumeOf_31 : decode cX13_volumeOf 31 = .ok (.invokevirtual 430, 3) := by decide +kernel
theorem dX13_volumeOf_34 : decode cX13_volumeOf 34 = .ok (.istore_n 2, 1) := by decide +kernel
theorem dX13_volumeOf_35 : decode cX13_volumeOf 35 = .ok (.aload_n 0, 1) := by decide +kernel
theorem dX13_volumeOf_36 : decode cX13_volumeOf 36 = .ok (.getfield 68, 3) := by decide +kernel
theorem dX13_volumeOf_39 : decode cX13_volumeOf 39 = .ok (.iload_n 2, 1) := by decide +kernel
theorem dX13_volumeOf_40 : decode cX13_volumeOf 40 = .ok (.baload, 1) := by decide +kernel
theorem dX13_volumeOf_41 : decode cX13_volumeOf 41 = .ok (.ifCond .eq 8, 3) := by decide +kernel
theorem dX13_volumeOf_44 : decode cX13_volumeOf 44 = .ok (.bipush 6, 2) := by decide +kernel
theorem dX13_volumeOf_46 : decode cX13_volumeOf 46 = .ok (.goto 4, 3) := by decide +kernel
theorem dX13_volumeOf_49 : decode cX13_volumeOf 49 = .ok (.iload_n 2, 1) := by decide +kernel
theorem dX13_volumeOf_50 : decode cX13_volumeOf 50 = .ok (.ireturn, 1) := by decide +kernel
set_option maxRecDepth 20000 in
theorem ggX13_volume_X13_isEntry : GoodIn wsX13_volume wsX13_isEntry := goodIn_r _ [5, 6, 7, 8, 4, 9, 75, 76, 77, 78, 79, 80, 81, 82, 83, 84, 85, 86, 87, 88, 89, 90, 91, 92, 93, 94, 95, 96, 97, 98, 99, 100, 101, 102, 103, 104, 105, 106, 107, 108, 109, 110, 111, 112, 113, 114, 115, 116, 117, 118, 119, 120, 121, 122, 123, 124, 125, 126, 127, 128, 129, 130, 131, 132, 133, 134, 135, 136, 137, 138, 139, 140, 141, 142, 143, 144, 145, 146, 147, 148, 149, 150, 151, 152, 153, 154, 155, 156, 157, 158, 159, 160, 161, 162, 163, 164, 165, 166, 167, 168, 169, 170, 171, 172, 173, 174, 175, 176, 177, 178] (by decide +kernel) (by decide +kernel)
set_option maxRecDepth 20000 in
theorem gX13_volume_X13_isEntry : GoodIn wsX13_volume (wsV RX13 421 RX13 yX13_isEntry wsX13_isEntry) := goodIn_app (goodIn_of _ (by decide +kernel)) ggX13_volume_X13_isEntry
set_option maxRecDepth 20000 in
theorem ggX13_volume_X13_volumeOf : GoodIn wsX13_volume wsX13_volumeOf := goodIn_r _ [13, 14, 15, 16, 17, 18, 19, 4, 20, 21, 22, 23, 24, 25, 26, 27, 28, 29, 30, 31, 32, 33, 34, 35, 36, 37, 38, 39, 40, 41, 42, 43, 44, 45, 46, 47, 48, 49, 50, 51, 52, 53, 54, 55, 56, 57, 58, 59, 60, 61, 62, 63, 64, 65, 66, 67, 68, 69, 70, 71, 72, 73, 74, 75, 76, 77, 78, 79, 80, 81, 82, 83, 84, 85, 86, 87, 88, 89, 90, 91, 92, 93, 94, 95, 96, 97, 98, 99, 100, 101, 102, 103, 104, 105, 106, 107, 108, 109, 110, 111, 112, 113, 114, 115, 116, 117, 118, 119, 120, 121, 122, 123, 124, 125, 126, 127, 128, 129, 130, 131, 132, 133, 134, 135, 136, 137, 138, 139, 140, 141, 142, 143, 144, 145, 146, 147, 148, 149, 150, 151, 152, 153, 154, 155, 156, 157, 158, 159, 160, 161, 162, 163, 164, 165, 166, 167, 168, 169, 170, 171, 172, 173, 174, 175, 176, 177, 178] (by decide +kernel) (by decide +kernel)
set_option maxRecDepth 20000 in
theorem gX13_volume_X13_volumeOf : GoodIn wsX13_volume (wsV RX13 433 RX13 yX13_volumeOf wsX13_volumeOf) := goodIn_app (goodIn_of _ (by decide +kernel)) ggX13_volume_X13_volumeOf
theorem dX13_volume_0 : decode cX13_volume 0 = .ok (.aload_n 0, 1) := by decide +kernel
theorem dX13_volume_1 : decode cX13_volume 1 = .ok (.iload_n 1, 1) := by decide +kernel
theorem dX13_volume_2 : decode cX13_volume 2 = .ok (.invokevirtual 421, 3) := by decide +kernel
theorem dX13_volume_5 : decode cX13_volume 5 = .ok (.ifCond .eq 11, 3) := by decide +kernel
theorem dX13_volume_8 : decode cX13_volume 8 = .ok (.aload_n 0, 1) := by decide +kernel
theorem dX13_volume_9 : decode cX13_volume 9 = .ok (.iload_n 1, 1) := by decide +kernel
theorem dX13_volume_10 : decode cX13_volume 10 = .ok (.invokevirtual 433, 3) := by decide +kernel
theorem dX13_volume_13 : decode cX13_volume 13 = .ok (.goto 4, 3) := by decide +kernel
theorem dX13_volume_16 : decode cX13_volume 16 = .ok (.iconst (-1), 1) := by decide +kernel
theorem dX13_volume_17 : decode cX13_volume 17 = .ok (.ireturn, 1) := by decide +kernel
set_option maxRecDepth 20000 in
theorem ggX13_canGo_X13_isEntry : GoodIn wsX13_canGo wsX13_isEntry := goodIn_r _ [7, 8, 9, 10, 6, 11, 76, 77, 78, 79, 80, 81, 82, 83, 84, 85, 86, 87, 88, 89, 90, 91, 92, 93, 94, 95, 96, 97, 98, 99, 100, 101, 102, 103, 104, 105, 106, 107, 108, 109, 110, 111, 112, 113, 114, 115, 116, 117, 118, 119, 120, 121, 122, 123, 124, 125, 126, 127, 128, 129, 130, 131, 132, 133, 134, 135, 136, 137, 138, 139, 140, 141, 142, 143, 144, 145, 146, 147, 148, 149, 150, 151, 152, 153, 154, 155, 156, 157, 158, 159, 160, 161, 162, 163, 164, 165, 166, 167, 168, 169, 170, 171, 172, 173, 174, 175, 176, 177, 178, 179] (by decide +kernel) (by decide +kernel)
set_option maxRecDepth 20000 in
theorem gX13_canGo_X13_isEntry : GoodIn wsX13_canGo (wsV RX13 421 RX13 yX13_isEntry wsX13_isEntry) := goodIn_app (goodIn_of _ (by decide +kernel)) ggX13_canGo_X13_isEntry
set_option maxRecDepth 20000 in
theorem ggX13_canGo_X13_volumeOf : GoodIn wsX13_canGo wsX13_volumeOf := goodIn_r _ [15, 2, 16, 17, 18, 19, 20, 6, 21, 22, 23, 24, 25, 26, 27, 28, 29, 30, 31, 32, 33, 34, 35, 36, 37, 38, 39, 40, 41, 42, 43, 44, 45, 46, 47, 48, 49, 50, 51, 52, 53, 54, 55, 56, 57, 58, 59, 60, 61, 62, 63, 64, 65, 66, 67, 68, 69, 70, 71, 72, 73, 74, 75, 76, 77, 78, 79, 80, 81, 82, 83, 84, 85, 86, 87, 88, 89, 90, 91, 92, 93, 94, 95, 96, 97, 98, 99, 100, 101, 102, 103, 104, 105, 106, 107, 108, 109, 110, 111, 112, 113, 114, 115, 116, 117, 118, 119, 120, 121, 122, 123, 124, 125, 126, 127, 128, 129, 130, 131, 132, 133, 134, 135, 136, 137, 138, 139, 140, 141, 142, 143, 144, 145, 146, 147, 148, 149, 150, 151, 152, 153, 154, 155, 156, 157, 158, 159, 160, 161, 162, 163, 164, 165, 166, 167, 168, 169, 170, 171, 172, 173, 174, 175, 176, 177, 178, 179] (by decide +kernel) (by decide +kernel)
set_option maxRecDepth 20000 in
theorem gX13_canGo_X13_volumeOf : GoodIn wsX13_canGo (wsV RX13 433 RX13 yX13_volumeOf wsX13_volumeOf) := goodIn_app (goodIn_of _ (by decide +kernel)) ggX13_canGo_X13_volumeOf
theorem dX13_canGo_0 : decode cX13_canGo 0 = .ok (.aload_n 0, 1) := by decide +kernel
theorem dX13_canGo_1 : decode cX13_canGo 1 = .ok (.iload_n 1, 1) := by decide +kernel
theorem dX13_canGo_2 : decode cX13_canGo 2 = .ok (.invokevirtual 421, 3) := by decide +kernel
theorem dX13_canGo_5 : decode cX13_canGo 5 = .ok (.ifCond .eq 36, 3) := by decide +kernel
theorem dX13_canGo_8 : decode cX13_canGo 8 = .ok (.aload_n 0, 1) := by decide +kernel
theorem dX13_canGo_9 : decode cX13_canGo 9 = .ok (.getfield 108, 3) := by decide +kernel
theorem dX13_canGo_12 : decode cX13_canGo 12 = .ok (.iload_n 1, 1) := by decide +kernel
theorem dX13_canGo_13 : decode cX13_canGo 13 = .ok (.baload, 1) := by decide +kernel
theorem dX13_canGo_14 : decode cX13_canGo 14 = .ok (.ifCond .ne 27, 3) := by decide +kernel
theorem dX13_canGo_17 : decode cX13_canGo 17 = .ok (.aload_n 0, 1) := by decide +kernel
theorem dX13_canGo_18 : decode cX13_canGo 18 = .ok (.getfield 114, 3) := by decide +kernel
theorem dX13_canGo_21 : decode cX13_canGo 21 = .ok (.iload_n 1, 1) := by decide +kernel
theorem dX13_canGo_22 : decode cX13_canGo 22 = .ok (.iaload, 1) := by decide +kernel
theorem dX13_canGo_23 : decode cX13_canGo 23 = .ok (.iconst (-1), 1) := by decide +kernel
theorem dX13_canGo_24 : decode cX13_canGo 24 = .ok (.if_icmp .ne 17, 3) := by decide +kernel
theorem dX13_canGo_27 : decode cX13_canGo 27 = .ok (.aload_n 0, 1) := by decide +kernel
theorem dX13_canGo_28 : decode cX13_canGo 28 = .ok (.iload_n 1, 1) := by decide +kernel
theorem dX13_canGo_29 : decode cX13_canGo 29 = .ok (.invokevirtual 433, 3) := by decide +kernel
theorem dX13_canGo_32 : decode cX13_canGo 32 = .ok (.bipush 6, 2) := by decide +kernel
theorem dX13_canGo_34 : decode cX13_canGo 34 = .ok (.if_icmp .eq 7, 3) := by decide +kernel
theorem dX13_canGo_37 : decode cX13_canGo 37 = .ok (.iconst 1, 1) := by decide +kernel
theorem dX13_canGo_38 : decode cX13_canGo 38 = .ok (.goto 4, 3) := by decide +kernel
theorem dX13_canGo_41 : decode cX13_canGo 41 = .ok (.iconst 0, 1) := by decide +kernel
theorem dX13_canGo_42 : decode cX13_canGo 42 = .ok (.ireturn, 1) := by decide +kernel
set_option maxRecDepth 20000 in
theorem ggX13_strike_X13_canGo : GoodIn wsX13_strike wsX13_canGo := goodIn_r _ [6, 1, 7, 8, 9, 10, 5, 11, 12, 13, 14, 15, 16, 17, 18, 19, 20, 21, 22, 23, 24, 25, 26, 27, 28, 29, 30, 31, 32, 33, 34, 35, 36, 37, 38, 39, 40, 41, 42, 43, 44, 45, 46, 47, 48, 49, 50, 51, 52, 53, 54, 55, 56, 57, 58, 59, 60, 61, 62, 63, 64, 65, 66, 67, 68, 69, 70, 71, 72, 73, 74, 75, 76, 77, 78, 79, 80, 81, 82, 83, 84, 85, 86, 87, 88, 89, 90, 91, 92, 93, 94, 95, 96, 97, 98, 99, 100, 101, 102, 103, 104, 105, 106, 107, 108, 109, 110, 111, 112, 113, 114, 115, 116, 117, 118, 119, 120, 121, 122, 123, 124, 125, 126, 127, 128, 129, 130, 131, 132, 133, 134, 135, 136, 137, 138, 139, 140, 141, 142, 143, 144, 145, 146, 147, 148, 149, 150, 151, 152, 153, 154, 155, 156, 157, 158, 159, 160, 161, 162, 163, 164, 165, 166, 167, 168, 169, 170, 171, 172, 173, 174, 175, 176, 177, 178, 179, 180, 181, 182, 183] (by decide +kernel) (by decide +kernel)
set_option maxRecDepth 20000 in
theorem gX13_strike_X13_canGo : GoodIn wsX13_strike (wsV RX13 436 RX13 yX13_canGo wsX13_canGo) := goodIn_app (goodIn_of _ (by decide +kernel)) ggX13_strike_X13_canGo
theorem dX13_strike_0 : decode cX13_strike 0 = .ok (.aload_n 0, 1) := by decide +kernel
theorem dX13_strike_1 : decode cX13_strike 1 = .ok (.iload_n 1, 1) := by decide +kernel
theorem dX13_strike_2 : decode cX13_strike 2 = .ok (.invokevirtual 436, 3) := by decide +kernel
theorem dX13_strike_5 : decode cX13_strike 5 = .ok (.ifCond .ne 5, 3) := by decide +kernel
theorem dX13_strike_8 : decode cX13_strike 8 = .ok (.iconst 0, 1) := by decide +kernel
theorem dX13_strike_9 : decode cX13_strike 9 = .ok (.ireturn, 1) := by decide +kernel
theorem dX13_strike_10 : decode cX13_strike 10 = .ok (.aload_n 0, 1) := by decide +kernel
theorem dX13_strike_11 : decode cX13_strike 11 = .ok (.getfield 108, 3) := by decide +kernel
theorem dX13_strike_14 : decode cX13_strike 14 = .ok (.iload_n 1, 1) := by decide +kernel
theorem dX13_strike_15 : decode cX13_strike 15 = .ok (.iconst 1, 1) := by decide +kernel
theorem dX13_strike_16 : decode cX13_strike 16 = .ok (.bastore, 1) := by decide +kernel
theorem dX13_strike_17 : decode cX13_strike 17 = .ok (.iconst 1, 1) := by decide +kernel
theorem dX13_strike_18 : decode cX13_strike 18 = .ok (.ireturn, 1) := by decide +kernel
set_option maxRecDepth 20000 in
theorem ggX13_later_X13_canGo : GoodIn wsX13_later wsX13_canGo := goodIn_r _ [6, 7, 8, 9, 10, 11, 5, 12, 13, 14, 15, 16, 17, 18, 19, 20, 1, 21, 22, 23, 24, 25, 26, 27, 28, 29, 30, 31, 32, 33, 34, 35, 36, 37, 38, 39, 40, 41, 42, 43, 44, 45, 46, 47, 48, 49, 50, 51, 52, 53, 54, 55, 56, 57, 58, 59, 60, 61, 62, 63, 64, 65, 66, 67, 68, 69, 70, 71, 72, 73, 74, 75, 76, 77, 78, 79, 80, 81, 82, 83, 84, 85, 86, 87, 88, 89, 90, 91, 92, 93, 94, 95, 96, 97, 98, 99, 100, 101, 102, 103, 104, 105, 106, 107, 108, 109, 110, 111, 112, 113, 114, 115, 116, 117, 118, 119, 120, 121, 122, 123, 124, 125, 126, 127, 128, 129, 130, 131, 132, 133, 134, 135, 136, 137, 138, 139, 140, 141, 142, 143, 144, 145, 146, 147, 148, 149, 150, 151, 152, 153, 154, 155, 156, 157, 158, 159, 160, 161, 162, 163, 164, 165, 166, 167, 168, 169, 170, 171, 172, 173, 174, 175, 176, 177, 178, 179, 180, 181, 182, 183] (by decide +kernel) (by decide +kernel)
set_option maxRecDepth 20000 in
theorem gX13_later_X13_canGo : GoodIn wsX13_later (wsV RX13 436 RX13 yX13_canGo wsX13_canGo) := goodIn_app (goodIn_of _ (by decide +kernel)) ggX13_later_X13_canGo
theorem dX13_later_0 : decode cX13_later 0 = .ok (.aload_n 0, 1) := by decide +kernel
theorem dX13_later_1 : decode cX13_later 1 = .ok (.iload_n 1, 1) := by decide +kernel
theorem dX13_later_2 : decode cX13_later 2 = .ok (.invokevirtual 436, 3) := by decide +kernel
theorem dX13_later_5 : decode cX13_later 5 = .ok (.ifCond .ne 5, 3) := by decide +kernel
theorem dX13_later_8 : decode cX13_later 8 = .ok (.iconst 0, 1) := by decide +kernel
theorem dX13_later_9 : decode cX13_later 9 = .ok (.ireturn, 1) := by decide +kernel
theorem dX13_later_10 : decode cX13_later 10 = .ok (.aload_n 0, 1) := by decide +kernel
theorem dX13_later_11 : decode cX13_later 11 = .ok (.getfield 111, 3) := by decide +kernel
theorem dX13_later_14 : decode cX13_later 14 = .ok (.iload_n 1, 1) := by decide +kernel
theorem dX13_later_15 : decode cX13_later 15 = .ok (.iconst 1, 1) := by decide +kernel
theorem dX13_later_16 : decode cX13_later 16 = .ok (.bastore, 1) := by decide +kernel
theorem dX13_later_17 : decode cX13_later 17 = .ok (.iconst 1, 1) := by decide +kernel
theorem dX13_later_18 : decode cX13_later 18 = .ok (.ireturn, 1) := by decide +kernel
set_option maxRecDepth 20000 in
theorem ggX13_orders_X13_volumeOf : GoodIn wsX13_orders wsX13_volumeOf := goodIn_r _ [10, 11, 12, 1, 13, 14, 15, 9, 16, 17, 18, 19, 20, 21, 22, 23, 24, 25, 26, 27, 28, 29, 30, 31, 32, 33, 34, 35, 36, 37, 38, 39, 40, 41, 42, 43, 44, 45, 46, 47, 48, 49, 50, 51, 52, 53, 54, 55, 56, 57, 58, 59, 60, 61, 62, 63, 64, 65, 66, 67, 68, 69, 70, 80, 81, 82, 83, 84, 85, 86, 87, 88, 89, 90, 91, 92, 93, 94, 95, 96, 97, 98, 99, 100, 101, 102, 103, 104, 105, 106, 107, 108, 109, 110, 111, 112, 113, 114, 115, 116, 117, 118, 119, 120, 121, 122, 123, 124, 125, 126, 127, 128, 129, 130, 131, 132, 133, 134, 135, 136, 137, 138, 139, 140, 141, 142, 143, 144, 145, 146, 147, 148, 149, 150, 151, 152, 153, 154, 155, 156, 157, 158, 159, 160, 161, 162, 163, 164, 165, 166, 167, 168, 169, 170, 171, 172, 173, 174, 175, 176, 177, 178, 179, 180, 181, 182, 183] (by decide +kernel) (by decide +kernel)
set_option maxRecDepth 20000 in
theorem gX13_orders_X13_volumeOf : GoodIn wsX13_orders (wsV RX13 433 RX13 yX13_volumeOf wsX13_volumeOf) := goodIn_app (goodIn_of _ (by decide +kernel)) ggX13_orders_X13_volumeOf
set_option maxRecDepth 20000 in
theorem ggX13_orders_X13_isAhead : GoodIn wsX13_orders wsX13_isAhead := goodIn_r _ [74, 75, 76, 77, 9, 78, 17, 79, 20, 21, 22, 23, 18, 24, 25, 26, 27, 28, 29, 30, 31, 32, 33, 34, 35, 36, 37, 38, 39, 40, 41, 42, 43, 44, 45, 46, 47, 48, 49, 50, 51, 52, 53, 54, 55, 56, 57, 58, 59, 60, 61, 62, 63, 64, 65, 66, 67, 68, 69, 70, 80, 81, 82, 83, 84, 85, 86, 87, 88, 89, 90, 91, 92, 93, 94, 95, 96, 97, 98, 99, 100, 101, 102, 103, 104, 105, 106, 107, 108, 109, 110, 111, 112, 113, 114, 115, 116, 117, 118, 119, 120, 121, 122, 123, 124, 125, 126, 127, 128, 129, 130, 131, 132, 133, 134, 135, 136, 137, 138, 139, 140, 141, 142, 143, 144, 145, 146, 147, 148, 149, 150, 151, 152, 153, 154, 155, 156, 157, 158, 159, 160, 161, 162, 163, 164, 165, 166, 167, 168, 169, 170, 171, 172, 173, 174, 175, 176, 177, 178, 179, 180, 181, 182, 183] (by decide +kernel) (by decide +kernel)
set_option maxRecDepth 20000 in
theorem gX13_orders_X13_isAhead : GoodIn wsX13_orders (wsV RX13 439 RX13 yX13_isAhead wsX13_isAhead) := goodIn_app (goodIn_of _ (by decide +kernel)) ggX13_orders_X13_isAhead
theorem dX13_orders_0 : decode cX13_orders 0 = .ok (.aload_n 0, 1) := by decide +kernel
theorem dX13_orders_1 : decode cX13_orders 1 = .ok (.getfield 68, 3) := by decide +kernel
theorem dX13_orders_4 : decode cX13_orders 4 = .ok (.iload_n 1, 1) := by decide +kernel
theorem dX13_orders_5 : decode cX13_orders 5 = .ok (.baload, 1) := by decide +kernel
theorem dX13_orders_6 : decode cX13_orders 6 = .ok (.ifCond .eq 45, 3) := by decide +kernel
theorem dX13_orders_9 : decode cX13_orders 9 = .ok (.iconst 0, 1) := by decide +kernel
theorem dX13_orders_10 : decode cX13_orders 10 = .ok (.istore_n 2, 1) := by decide +kernel
theorem dX13_orders_11 : decode cX13_orders 11 = .ok (.iload_n 2, 1) := by decide +kernel
theorem dX13_orders_12 : decode cX13_orders 12 = .ok (.aload_n 0, 1) := by decide +kernel
theorem dX13_orders_13 : decode cX13_orders 13 = .ok (.getfield 75, 3) := by decide +kernel
theorem dX13_orders_16 : decode cX13_orders 16 = .ok (.iload_n 1, 1) := by decide +kernel
theorem dX13_orders_17 : decode cX13_orders 17 = .ok (.iaload, 1) := by decide +kernel
theorem dX13_orders_18 : decode cX13_orders 18 = .ok (.if_icmp .ge 26, 3) := by decide +kernel
theorem dX13_orders_21 : decode cX13_orders 21 = .ok (.aload_n 0, 1) := by decide +kernel
theorem dX13_orders_22 : decode cX13_orders 22 = .ok (.getfield 210, 3) := by decide +kernel
theorem dX13_orders_25 : decode cX13_orders 25 = .ok (.iload_n 2, 1) := by decide +kernel
theorem dX13_orders_26 : decode cX13_orders 26 = .ok (.aload_n 0, 1) := by decide +kernel
theorem dX13_orders_27 : decode cX13_orders 27 = .ok (.getfield 78, 3) := by decide +kernel
theorem dX13_orders_30 : decode cX13_orders 30 = .ok (.bipush 60, 2) := by decide +kernel
theorem dX13_orders_32 : decode cX13_orders 32 = .ok (.iload_n 1, 1) := by decide +kernel
theorem dX13_orders_33 : decode cX13_orders 33 = .ok (.imul, 1) := by decide +kernel
theorem dX13_orders_34 : decode cX13_orders 34 = .ok (.iload_n 2, 1) := by decide +kernel
theorem dX13_orders_35 : decode cX13_orders 35 = .ok (.iadd, 1) := by decide +kernel
theorem dX13_orders_36 : decode cX13_orders 36 = .ok (.iaload, 1) := by decide +kernel
theorem dX13_orders_37 : decode cX13_orders 37 = .ok (.iastore, 1) := by decide +kernel
theorem dX13_orders_38 : decode cX13_orders 38 = .ok (.iinc 2 1, 3) := by decide +kernel
theorem dX13_orders_41 : decode cX13_orders 41 = .ok (.goto (-30), 3) := by decide +kernel
theorem dX13_orders_44 : decode cX13_orders 44 = .ok (.aload_n 0, 1) := by decide +kernel
theorem dX13_orders_45 : decode cX13_orders 45 = .ok (.getfield 75, 3) := by decide +kernel
theorem dX13_orders_48 : decode cX13_orders 48 = .ok (.iload_n 1, 1) := by decide +kernel
theorem dX13_orders_49 : decode cX13_orders 49 = .ok (.iaload, 1) := by decide +kernel
theorem dX13_orders_50 : decode cX13_orders 50 = .ok (.ireturn, 1) := by decide +kernel
theorem dX13_orders_51 : decode cX13_orders 51 = .ok (.iconst 0, 1) := by decide +kernel
theorem dX13_orders_52 : decode cX13_orders 52 = .ok (.istore_n 2, 1) := by decide +kernel
theorem dX13_orders_53 : decode cX13_orders 53 = .ok (.iconst 0, 1) := by decide +kernel
theorem dX13_orders_54 : decode cX13_orders 54 = .ok (.istore_n 3, 1) := by decide +kernel
theorem dX13_orders_55 : decode cX13_orders 55 = .ok (.iload_n 3, 1) := by decide +kernel
theorem dX13_orders_56 : decode cX13_orders 56 = .ok (.aload_n 0, 1) := by decide +kernel
theorem dX13_orders_57 : decode cX13_orders 57 = .ok (.getfield 418, 3) := by decide +kernel
theorem dX13_orders_60 : decode cX13_orders 60 = .ok (.if_icmp .ge 81, 3) := by decide +kernel
theorem dX13_orders_63 : decode cX13_orders 63 = .ok (.aload_n 0, 1) := by decide +kernel
theorem dX13_orders_64 : decode cX13_orders 64 = .ok (.iload_n 3, 1) := by decide +kernel
theorem dX13_orders_65 : decode cX13_orders 65 = .ok (.invokevirtual 433, 3) := by decide +kernel
theorem dX13_orders_68 : decode cX13_orders 68 = .ok (.iload_n 1, 1) := by decide +kernel
theorem dX13_orders_69 : decode cX13_orders 69 = .ok (.if_icmp .eq 6, 3) := by decide +kernel
theorem dX13_orders_72 : decode cX13_orders 72 = .ok (.goto 63, 3) := by decide +kernel
theorem dX13_orders_75 : decode cX13_orders 75 = .ok (.iload_n 2, 1) := by decide +kernel
theorem dX13_orders_76 : decode cX13_orders 76 = .ok (.istore 4, 2) := by decide +kernel
theorem dX13_orders_78 : decode cX13_orders 78 = .ok (.iload 4, 2) := by decide +kernel
theorem dX13_orders_80 : decode cX13_orders 80 = .ok (.ifCond .le 44, 3) := by decide +kernel
theorem dX13_orders_83 : decode cX13_orders 83 = .ok (.aload_n 0, 1) := by decide +kernel
theorem dX13_orders_84 : decode cX13_orders 84 = .ok (.iload_n 3, 1) := by decide +kernel
theorem dX13_orders_85 : decode cX13_orders 85 = .ok (.aload_n 0, 1) := by decide +kernel
theorem dX13_orders_86 : decode cX13_orders 86 = .ok (.getfield 210, 3) := by decide +kernel
theorem dX13_orders_89 : decode cX13_orders 89 = .ok (.iload 4, 2) := by decide +kernel
theorem dX13_orders_91 : decode cX13_orders 91 = .ok (.iconst 1, 1) := by decide +kernel
theorem dX13_orders_92 : decode cX13_orders 92 = .ok (.isub, 1) := by decide +kernel
theorem dX13_orders_93 : decode cX13_orders 93 = .ok (.iaload, 1) := by decide +kernel
theorem dX13_orders_94 : decode cX13_orders 94 = .ok (.iload_n 1, 1) := by decide +kernel
theorem dX13_orders_95 : decode cX13_orders 95 = .ok (.iconst 0, 1) := by decide +kernel
theorem dX13_orders_96 : decode cX13_orders 96 = .ok (.invokevirtual 439, 3) := by decide +kernel
theorem dX13_orders_99 : decode cX13_orders 99 = .ok (.ifCond .eq 25, 3) := by decide +kernel
theorem dX13_orders_102 : decode cX13_orders 102 = .ok (.aload_n 0, 1) := by decide +kernel
theorem dX13_orders_103 : decode cX13_orders 103 = .ok (.getfield 210, 3) := by decide +kernel
theorem dX13_orders_106 : decode cX13_orders 106 = .ok (.iload 4, 2) := by decide +kernel
theorem dX13_orders_108 : decode cX13_orders 108 = .ok (.aload_n 0, 1) := by decide +kernel
theorem dX13_orders_109 : decode cX13_orders 109 = .ok (.getfield 210, 3) := by decide +kernel
theorem dX13_orders_112 : decode cX13_orders 112 = .ok (.iload 4, 2) := by decide +kernel
theorem dX13_orders_114 : decode cX13_orders 114 = .ok (.iconst 1, 1) := by decide +kernel
theorem dX13_orders_115 : decode cX13_orders 115 = .ok (.isub, 1) := by decide +kernel
theorem dX13_orders_116 : decode cX13_orders 116 = .ok (.iaload, 1) := by decide +kernel
theorem dX13_orders_117 : decode cX13_orders 117 = .ok (.iastore, 1) := by decide +kernel
theorem dX13_orders_118 : decode cX13_orders 118 = .ok (.iinc 4 (-1), 3) := by decide +kernel
theorem dX13_orders_121 : decode cX13_orders 121 = .ok (.goto (-43), 3) := by decide +kernel
theorem dX13_orders_124 : decode cX13_orders 124 = .ok (.aload_n 0, 1) := by decide +kernel
theorem dX13_orders_125 : decode cX13_orders 125 = .ok (.getfield 210, 3) := by decide +kernel
theorem dX13_orders_128 : decode cX13_orders 128 = .ok (.iload 4, 2) := by decide +kernel
theorem dX13_orders_130 : decode cX13_orders 130 = .ok (.iload_n 3, 1) := by decide +kernel
theorem dX13_orders_131 : decode cX13_orders 131 = .ok (.iastore, 1) := by decide +kernel
theorem dX13_orders_132 : decode cX13_orders 132 = .ok (.iinc 2 1, 3) := by decide +kernel
theorem dX13_orders_135 : decode cX13_orders 135 = .ok (.iinc 3 1, 3) := by decide +kernel
theorem dX13_orders_138 : decode cX13_orders 138 = .ok (.goto (-83), 3) := by decide +kernel
theorem dX13_orders_141 : decode cX13_orders 141 = .ok (.iload_n 2, 1) := by decide +kernel
theorem dX13_orders_142 : decode cX13_orders 142 = .ok (.ireturn, 1) := by decide +kernel
set_option maxRecDepth 20000 in
theorem ggX13_at_X13_isVolume : GoodIn wsX13_at wsX13_isVolume := goodIn_r _ [5, 6, 7, 4, 8] (by decide +kernel) (by decide +kernel)
set_option maxRecDepth 20000 in
theorem gX13_at_X13_isVolume : GoodIn wsX13_at (va_wsS RX13 377 yX13_isVolume wsX13_isVolume) := goodIn_app (goodIn_of _ (by decide +kernel)) ggX13_at_X13_isVolume
set_option maxRecDepth 20000 in
theorem ggX13_at_X13_orders : GoodIn wsX13_at wsX13_orders := goodIn_r _ [12, 13, 14, 1, 15, 16, 17, 18, 19, 4, 20, 21, 22, 23, 24, 25, 26, 27, 28, 29, 30, 31, 32, 33, 34, 35, 36, 37, 38, 39, 40, 41, 42, 43, 44, 45, 46, 47, 48, 49, 50, 51, 52, 53, 54, 55, 56, 57, 58, 59, 60, 61, 62, 63, 64, 65, 66, 67, 68, 69, 70, 71, 72, 73, 74, 75, 76, 77, 78, 79, 80, 81, 82, 83, 84, 85, 86, 87, 88, 89, 90, 91, 92, 93, 94, 95, 96, 97, 98, 99, 100, 101, 102, 103, 104, 105, 106, 107, 108, 109, 110, 111, 112, 113, 114, 115, 116, 117, 118, 119, 120, 121, 122, 123, 124, 125, 126, 127, 128, 129, 130, 131, 132, 133, 134, 135, 136, 137, 138, 139, 140, 141, 142, 143, 144, 145, 146, 147, 148, 149, 150, 151, 152, 153, 154, 155, 156, 157, 158, 159, 160, 161, 162, 163, 164, 165, 166, 167, 168, 169, 170, 171, 172, 173, 174, 175, 176, 177, 178, 179, 180, 181, 182, 183, 184, 185, 186, 187, 188, 189, 190, 191, 192, 193] (by decide +kernel) (by decide +kernel)
set_option maxRecDepth 20000 in
theorem gX13_at_X13_orders : GoodIn wsX13_at (wsV RX13 442 RX13 yX13_orders wsX13_orders) := goodIn_app (goodIn_of _ (by decide +kernel)) ggX13_at_X13_orders
set_option maxRecDepth 20000 in
theorem ggX13_at_X13_in : GoodIn wsX13_at wsX13_in := goodIn_r _ [8] (by decide +kernel) (by decide +kernel)
set_option maxRecDepth 20000 in
theorem gX13_at_X13_in : GoodIn wsX13_at (va_wsS RX13 256 yX13_in wsX13_in) := goodIn_app (goodIn_of _ (by decide +kernel)) ggX13_at_X13_in
theorem dX13_at_0 : decode cX13_at 0 = .ok (.iload_n 1, 1) := by decide +kernel
theorem dX13_at_1 : decode cX13_at 1 = .ok (.invokestatic 377, 3) := by decide +kernel
theorem dX13_at_4 : decode cX13_at 4 = .ok (.ifCond .eq 27, 3) := by decide +kernel
theorem dX13_at_7 : decode cX13_at 7 = .ok (.iload_n 2, 1) := by decide +kernel
theorem dX13_at_8 : decode cX13_at 8 = .ok (.iconst 0, 1) := by decide +kernel
theorem dX13_at_9 : decode cX13_at 9 = .ok (.aload_n 0, 1) := by decide +kernel
theorem dX13_at_10 : decode cX13_at 10 = .ok (.iload_n 1, 1) := by decide +kernel
theorem dX13_at_11 : decode cX13_at 11 = .ok (.invokevirtual 442, 3) := by decide +kernel
theorem dX13_at_14 : decode cX13_at 14 = .ok (.iconst 1, 1) := by decide +kernel
theorem dX13_at_15 : decode cX13_at 15 = .ok (.isub, 1) := by decide +kernel
theorem dX13_at_16 : decode cX13_at 16 = .ok (.invokestatic 256, 3) := by decide +kernel
theorem dX13_at_19 : decode cX13_at 19 = .ok (.ifCond .eq 12, 3) := by decide +kernel
theorem dX13_at_22 : decode cX13_at 22 = .ok (.aload_n 0, 1) := by decide +kernel
theorem dX13_at_23 : decode cX13_at 23 = .ok (.getfield 210, 3) := by decide +kernel
theorem dX13_at_26 : decode cX13_at 26 = .ok (.iload_n 2, 1) := by decide +kernel
theorem dX13_at_27 : decode cX13_at 27 = .ok (.iaload, 1) := by decide +kernel
theorem dX13_at_28 : decode cX13_at 28 = .ok (.goto 4, 3) := by decide +kernel
theorem dX13_at_31 : decode cX13_at 31 = .ok (.iconst (-1), 1) := by decide +kernel
theorem dX13_at_32 : decode cX13_at 32 = .ok (.ireturn, 1) := by decide +kernel
set_option maxRecDepth 20000 in
theorem ggX13_why_X13_isEntry : GoodIn wsX13_why wsX13_isEntry := goodIn_r _ [5, 6, 7, 8, 4, 9, 72, 73, 74, 75, 76, 77, 78, 79, 80, 81, 82, 83, 84, 85, 86, 87, 88, 89, 90, 91, 92, 93, 94, 95, 96, 97, 98, 99, 100, 101, 102, 103, 104, 105, 106, 107, 108, 109, 110, 111, 112, 113, 114, 115, 116, 117, 118, 119, 120, 121, 122, 123, 124, 125, 126, 127, 128, 129, 130, 131, 132, 133, 134, 135, 136, 137, 138, 139, 140, 141, 142, 143, 144, 145, 146, 147, 148, 149, 150, 151, 152, 153, 154, 155, 156, 157, 158, 159, 160, 161, 162, 163, 164, 165, 166, 167, 168, 169, 170, 171, 172, 173, 174, 175] (by decide +kernel) (by decide +kernel)
set_option maxRecDepth 20000 in
theorem gX13_why_X13_isEntry : GoodIn wsX13_why (wsV RX13 421 RX13 yX13_isEntry wsX13_isEntry) := goodIn_app (goodIn_of _ (by decide +kernel)) ggX13_why_X13_isEntry
set_option maxRecDepth 20000 in
theorem ggX13_why_X13_compared : GoodIn wsX13_why wsX13_compared := goodIn_r _ [13, 14, 15, 16, 17, 18, 4, 19, 20, 21, 22, 23, 24, 25, 26, 27, 28, 29, 30, 31, 32, 33, 34, 35, 36, 37, 38, 39, 40, 41, 42, 43, 44, 45, 46, 47, 48, 49, 50, 51, 52, 53, 54, 55, 56, 57, 58, 59, 60, 61, 62, 63, 64, 65, 66, 67, 72, 73, 74, 75, 76, 77, 78, 79, 80, 81, 82, 83, 84, 85, 86, 87, 88, 89, 90, 91, 92, 93, 94, 95, 96, 97, 98, 99, 100, 101, 102, 103, 104, 105, 106, 107, 108, 109, 110, 111, 112, 113, 114, 115, 116, 117, 118, 119, 120, 121, 122, 123, 124, 125, 126, 127, 128, 129, 130, 131, 132, 133, 134, 135, 136, 137, 138, 139, 140, 141, 142, 143, 144, 145, 146, 147, 148, 149, 150, 151, 152, 153, 154, 155, 156, 157, 158, 159, 160, 161, 162, 163, 164, 165, 166, 167, 168, 169, 170, 171, 172, 173, 174, 175] (by decide +kernel) (by decide +kernel)
set_option maxRecDepth 20000 in
theorem gX13_why_X13_compared : GoodIn wsX13_why (wsV RX13 414 RX13 yX13_compared wsX13_compared) := goodIn_app (goodIn_of _ (by decide +kernel)) ggX13_why_X13_compared
set_option maxRecDepth 20000 in
theorem ggX13_why_X13_isAhead : GoodIn wsX13_why wsX13_isAhead := goodIn_r _ [71, 10, 11, 12, 4, 13, 14, 15, 16, 17, 18, 19, 20, 21, 22, 23, 24, 25, 26, 27, 28, 29, 30, 31, 32, 33, 34, 35, 36, 37, 38, 39, 40, 41, 42, 43, 44, 45, 46, 47, 48, 49, 50, 51, 52, 53, 54, 55, 56, 57, 58, 59, 60, 61, 62, 63, 64, 65, 66, 67, 72, 73, 74, 75, 76, 77, 78, 79, 80, 81, 82, 83, 84, 85, 86, 87, 88, 89, 90, 91, 92, 93, 94, 95, 96, 97, 98, 99, 100, 101, 102, 103, 104, 105, 106, 107, 108, 109, 110, 111, 112, 113, 114, 115, 116, 117, 118, 119, 120, 121, 122, 123, 124, 125, 126, 127, 128, 129, 130, 131, 132, 133, 134, 135, 136, 137, 138, 139, 140, 141, 142, 143, 144, 145, 146, 147, 148, 149, 150, 151, 152, 153, 154, 155, 156, 157, 158, 159, 160, 161, 162, 163, 164, 165, 166, 167, 168, 169, 170, 171, 172, 173, 174, 175] (by decide +kernel) (by decide +kernel)
set_option maxRecDepth 20000 in
theorem gX13_why_X13_isAhead : GoodIn wsX13_why (wsV RX13 439 RX13 yX13_isAhead wsX13_isAhead) := goodIn_app (goodIn_of _ (by decide +kernel)) ggX13_why_X13_isAhead
theorem dX13_why_0 : decode cX13_why 0 = .ok (.aload_n 0, 1) := by decide +kernel
theorem dX13_why_1 : decode cX13_why 1 = .ok (.iload_n 1, 1) := by decide +kernel
theorem dX13_why_2 : decode cX13_why 2 = .ok (.invokevirtual 421, 3) := by decide +kernel
theorem dX13_why_5 : decode cX13_why 5 = .ok (.ifCond .eq 16, 3) := by decide +kernel
theorem dX13_why_8 : decode cX13_why 8 = .ok (.aload_n 0, 1) := by decide +kernel
theorem dX13_why_9 : decode cX13_why 9 = .ok (.iload_n 2, 1) := by decide +kernel
theorem dX13_why_10 : decode cX13_why 10 = .ok (.invokevirtual 421, 3) := by decide +kernel
theorem dX13_why_13 : decode cX13_why 13 = .ok (.ifCond .eq 8, 3) := by decide +kernel
theorem dX13_why_16 : decode cX13_why 16 = .ok (.iload_n 1, 1) := by decide +kernel
theorem dX13_why_17 : decode cX13_why 17 = .ok (.iload_n 2, 1) := by decide +kernel
theorem dX13_why_18 : decode cX13_why 18 = .ok (.if_icmp .ne 5, 3) := by decide +kernel
theorem dX13_why_21 : decode cX13_why 21 = .ok (.iconst (-1), 1) := by decide +kernel
theorem dX13_why_22 : decode cX13_why 22 = .ok (.ireturn, 1) := by decide +kernel
theorem dX13_why_23 : decode cX13_why 23 = .ok (.aload_n 0, 1) := by decide +kernel
theorem dX13_why_24 : decode cX13_why 24 = .ok (.iload_n 1, 1) := by decide +kernel
theorem dX13_why_25 : decode cX13_why 25 = .ok (.iload_n 2, 1) := by decide +kernel
theorem dX13_why_26 : decode cX13_why 26 = .ok (.bipush 6, 2) := by decide +kernel
theorem dX13_why_28 : decode cX13_why 28 = .ok (.iconst 0, 1) := by decide +kernel
theorem dX13_why_29 : decode cX13_why 29 = .ok (.invokevirtual 414, 3) := by decide +kernel
theorem dX13_why_32 : decode cX13_why 32 = .ok (.ifCond .ne 5, 3) := by decide +kernel
theorem dX13_why_35 : decode cX13_why 35 = .ok (.iconst 4, 1) := by decide +kernel
theorem dX13_why_36 : decode cX13_why 36 = .ok (.ireturn, 1) := by decide +kernel
theorem dX13_why_37 : decode cX13_why 37 = .ok (.iconst 1, 1) := by decide +kernel
theorem dX13_why_38 : decode cX13_why 38 = .ok (.istore_n 3, 1) := by decide +kernel
theorem dX13_why_39 : decode cX13_why 39 = .ok (.iload_n 3, 1) := by decide +kernel
theorem dX13_why_40 : decode cX13_why 40 = .ok (.iconst 4, 1) := by decide +kernel
theorem dX13_why_41 : decode cX13_why 41 = .ok (.if_icmp .ge 32, 3) := by decide +kernel
theorem dX13_why_44 : decode cX13_why 44 = .ok (.aload_n 0, 1) := by decide +kernel
theorem dX13_why_45 : decode cX13_why 45 = .ok (.iload_n 1, 1) := by decide +kernel
theorem dX13_why_46 : decode cX13_why 46 = .ok (.iload_n 2, 1) := by decide +kernel
theorem dX13_why_47 : decode cX13_why 47 = .ok (.bipush 6, 2) := by decide +kernel
theorem dX13_why_49 : decode cX13_why 49 = .ok (.iload_n 3, 1) := by decide +kernel
theorem dX13_why_50 : decode cX13_why 50 = .ok (.invokevirtual 439, 3) := by decide +kernel
theorem dX13_why_53 : decode cX13_why 53 = .ok (.aload_n 0, 1) := by decide +kernel
theorem dX13_why_54 : decode cX13_why 54 = .ok (.iload_n 1, 1) := by decide +kernel
theorem dX13_why_55 : decode cX13_why 55 = .ok (.iload_n 2, 1) := by decide +kernel
theorem dX13_why_56 : decode cX13_why 56 = .ok (.bipush 6, 2) := by decide +kernel
theorem dX13_why_58 : decode cX13_why 58 = .ok (.iconst 0, 1) := by decide +kernel
theorem dX13_why_59 : decode cX13_why 59 = .ok (.invokevirtual 439, 3) := by decide +kernel
theorem dX13_why_62 : decode cX13_why 62 = .ok (.if_icmp .eq 5, 3) := by decide +kernel
theorem dX13_why_65 : decode cX13_why 65 = .ok (.iload_n 3, 1) := by decide +kernel
theorem dX13_why_66 : decode cX13_why 66 = .ok (.ireturn, 1) := by decide +kernel
theorem dX13_why_67 : decode cX13_why 67 = .ok (.iinc 3 1, 3) := by decide +kernel
theorem dX13_why_70 : decode cX13_why 70 = .ok (.goto (-31), 3) := by decide +kernel
theorem dX13_why_73 : decode cX13_why 73 = .ok (.iconst 0, 1) := by decide +kernel
theorem dX13_why_74 : decode cX13_why 74 = .ok (.ireturn, 1) := by decide +kernel
set_option maxRecDepth 20000 in
theorem ggX13_isHand_X13_in : GoodIn wsX13_isHand wsX13_in := goodIn_r _ [5] (by decide +kernel) (by decide +kernel)
set_option maxRecDepth 20000 in
theorem gX13_isHand_X13_in : GoodIn wsX13_isHand (va_wsS RX13 256 yX13_in wsX13_in) := goodIn_app (goodIn_of _ (by decide +kernel)) ggX13_isHand_X13_in
theorem dX13_isHand_0 : decode cX13_isHand 0 = .ok (.iload_n 1, 1) := by decide +kernel
theorem dX13_isHand_1 : decode cX13_isHand 1 = .ok (.iconst 0, 1) := by decide +kernel
theorem dX13_isHand_2 : decode cX13_isHand 2 = .ok (.aload_n 0, 1) := by decide +kernel
theorem dX13_isHand_3 : decode cX13_isHand 3 = .ok (.getfield 445, 3) := by decide +kernel
theorem dX13_isHand_6 : decode cX13_isHand 6 = .ok (.iconst 1, 1) := by decide +kernel
theorem dX13_isHand_7 : decode cX13_isHand 7 = .ok (.isub, 1) := by decide +kernel
theorem dX13_isHand_8 : decode cX13_isHand 8 = .ok (.invokestatic 256, 3) := by decide +kernel
theorem dX13_isHand_11 : decode cX13_isHand 11 = .ok (.ireturn, 1) := by decide +kernel
set_option maxRecDepth 20000 in
theorem ggX13_hand_X13_in : GoodIn wsX13_hand wsX13_in := goodIn_r _ [9] (by decide +kernel) (by decide +kernel)
set_option maxRecDepth 20000 in
theorem gX13_hand_X13_in : GoodIn wsX13_hand (va_wsS RX13 256 yX13_in wsX13_in) := goodIn_app (goodIn_of _ (by decide +kernel)) ggX13_hand_X13_in
theorem dX13_hand_0 : decode cX13_hand 0 = .ok (.iload_n 1, 1) := by decide +kernel
theorem dX13_hand_1 : decode cX13_hand 1 = .ok (.iconst 1, 1) := by decide +kernel
theorem dX13_hand_2 : decode cX13_hand 2 = .ok (.sipush 255, 3) := by decide +kernel
theorem dX13_hand_5 : decode cX13_hand 5 = .ok (.invokestatic 256, 3) := by decide +kernel
theorem dX13_hand_8 : decode cX13_hand 8 = .ok (.ifCond .eq 33, 3) := by decide +kernel
theorem dX13_hand_11 : decode cX13_hand 11 = .ok (.iload_n 2, 1) := by decide +kernel
theorem dX13_hand_12 : decode cX13_hand 12 = .ok (.iconst 1, 1) := by decide +kernel
theorem dX13_hand_13 : decode cX13_hand 13 = .ok (.bipush 20, 2) := by decide +kernel
theorem dX13_hand_15 : decode cX13_hand 15 = .ok (.invokestatic 256, 3) := by decide +kernel
theorem dX13_hand_18 : decode cX13_hand 18 = .ok (.ifCond .eq 23, 3) := by decide +kernel
theorem dX13_hand_21 : decode cX13_hand 21 = .ok (.iload_n 3, 1) := by decide +kernel
theorem dX13_hand_22 : decode cX13_hand 22 = .ok (.ldc_w 448, 3) := by decide +kernel
theorem dX13_hand_25 : decode cX13_hand 25 = .ok (.iconst 0, 1) := by decide +kernel
theorem dX13_hand_26 : decode cX13_hand 26 = .ok (.invokestatic 256, 3) := by decide +kernel
theorem dX13_hand_29 : decode cX13_hand 29 = .ok (.ifCond .eq 12, 3) := by decide +kernel
theorem dX13_hand_32 : decode cX13_hand 32 = .ok (.aload_n 0, 1) := by decide +kernel
theorem dX13_hand_33 : decode cX13_hand 33 = .ok (.getfield 445, 3) := by decide +kernel
theorem dX13_hand_36 : decode cX13_hand 36 = .ok (.bipush 12, 2) := by decide +kernel
theorem dX13_hand_38 : decode cX13_hand 38 = .ok (.if_icmp .ne 5, 3) := by decide +kernel
theorem dX13_hand_41 : decode cX13_hand 41 = .ok (.iconst (-1), 1) := by decide +kernel
theorem dX13_hand_42 : decode cX13_hand 42 = .ok (.ireturn, 1) := by decide +kernel
theorem dX13_hand_43 : decode cX13_hand 43 = .ok (.aload_n 0, 1) := by decide +kernel
theorem dX13_hand_44 : decode cX13_hand 44 = .ok (.getfield 120, 3) := by decide +kernel
theorem dX13_hand_47 : decode cX13_hand 47 = .ok (.aload_n 0, 1) := by decide +kernel
theorem dX13_hand_48 : decode cX13_hand 48 = .ok (.getfield 445, 3) := by decide +kernel
theorem dX13_hand_51 : decode cX13_hand 51 = .ok (.iload_n 1, 1) := by decide +kernel
theorem dX13_hand_52 : decode cX13_hand 52 = .ok (.iastore, 1) := by decide +kernel
theorem dX13_hand_53 : decode cX13_hand 53 = .ok (.aload_n 0, 1) := by decide +kernel
theorem dX13_hand_54 : decode cX13_hand 54 = .ok (.getfield 123, 3) := by decide +kernel
theorem dX13_hand_57 : decode cX13_hand 57 = .ok (.aload_n 0, 1) := by decide +kernel
theorem dX13_hand_58 : decode cX13_hand 58 = .ok (.getfield 445, 3) := by decide +kernel
theorem dX13_hand_61 : decode cX13_hand 61 = .ok (.iload_n 2, 1) := by decide +kernel
theorem dX13_hand_62 : decode cX13_hand 62 = .ok (.iastore, 1) := by decide +kernel
theorem dX13_hand_63 : decode cX13_hand 63 = .ok (.aload_n 0, 1) := by decide +kernel
theorem dX13_hand_64 : decode cX13_hand 64 = .ok (.getfield 126, 3) := by decide +kernel
theorem dX13_hand_67 : decode cX13_hand 67 = .ok (.aload_n 0, 1) := by decide +kernel
theorem dX13_hand_68 : decode cX13_hand 68 = .ok (.getfield 445, 3) := by decide +kernel
theorem dX13_hand_71 : decode cX13_hand 71 = .ok (.iload_n 3, 1) := by decide +kernel
theorem dX13_hand_72 : decode cX13_hand 72 = .ok (.iastore, 1) := by decide +kernel
theorem dX13_hand_73 : decode cX13_hand 73 = .ok (.aload_n 0, 1) := by decide +kernel
theorem dX13_hand_74 : decode cX13_hand 74 = .ok (.dup, 1) := by decide +kernel
theorem dX13_hand_75 : decode cX13_hand 75 = .ok (.getfield 445, 3) := by decide +kernel
theorem dX13_hand_78 : decode cX13_hand 78 = .ok (.iconst 1, 1) := by decide +kernel
theorem dX13_hand_79 : decode cX13_hand 79 = .ok (.iadd, 1) := by decide +kernel
theorem dX13_hand_80 : decode cX13_hand 80 = .ok (.putfield 445, 3) := by decide +kernel
theorem dX13_hand_83 : decode cX13_hand 83 = .ok (.aload_n 0, 1) := by decide +kernel
theorem dX13_hand_84 : decode cX13_hand 84 = .ok (.getfield 445, 3) := by decide +kernel
theorem dX13_hand_87 : decode cX13_hand 87 = .ok (.iconst 1, 1) := by decide +kernel
theorem dX13_hand_88 : decode cX13_hand 88 = .ok (.isub, 1) := by decide +kernel
theorem dX13_hand_89 : decode cX13_hand 89 = .ok (.ireturn, 1) := by decide +kernel
set_option maxRecDepth 20000 in
theorem ggX13_enemies_X13_isHand : GoodIn wsX13_enemies wsX13_isHand := goodIn_r _ [6, 7, 8, 9, 5, 10, 11, 12, 13, 14, 15, 16, 17, 18, 19, 20, 21, 22, 23, 24, 25, 26, 27, 28, 29, 30, 31, 32, 33, 34, 35, 36, 37, 38, 39, 40, 41, 42, 43, 44, 45, 46, 47, 48, 49, 50, 51, 52, 53, 54, 55, 56, 57, 58, 59, 60, 61, 62, 63, 64, 65, 66, 67, 68, 69, 70, 71, 72, 73, 74, 75, 76, 77, 78, 79, 80, 81, 82, 83, 84, 85, 86, 87, 88, 89, 90, 91, 92, 93, 94, 95, 96, 97, 98, 99, 100, 101, 102, 103, 104, 105, 106, 107, 108, 109, 110, 111, 112, 113, 114] (by decide +kernel) (by decide +kernel)
set_option maxRecDepth 20000 in
theorem gX13_enemies_X13_isHand : GoodIn wsX13_enemies (wsV RX13 449 RX13 yX13_isHand wsX13_isHand) := goodIn_app (goodIn_of _ (by decide +kernel)) ggX13_enemies_X13_isHand
theorem dX13_enemies_0 : decode cX13_enemies 0 = .ok (.aload_n 0, 1) := by decide +kernel
theorem dX13_enemies_1 : decode cX13_enemies 1 = .ok (.iload_n 1, 1) := by decide +kernel
theorem dX13_enemies_2 : decode cX13_enemies 2 = .ok (.invokevirtual 449, 3) := by decide +kernel
theorem dX13_enemies_5 : decode cX13_enemies 5 = .ok (.ifCond .eq 30, 3) := by decide +kernel
theorem dX13_enemies_8 : decode cX13_enemies 8 = .ok (.aload_n 0, 1) := by decide +kernel
theorem dX13_enemies_9 : decode cX13_enemies 9 = .ok (.iload_n 2, 1) := by decide +kernel
theorem dX13_enemies_10 : decode cX13_enemies 10 = .ok (.invokevirtual 449, 3) := by decide +kernel
theorem dX13_enemies_13 : decode cX13_enemies 13 = .ok (.ifCond .eq 22, 3) := by decide +kernel
theorem dX13_enemies_16 : decode cX13_enemies 16 = .ok (.iload_n 1, 1) := by decide +kernel
theorem dX13_enemies_17 : decode cX13_enemies 17 = .ok (.iload_n 2, 1) := by decide +kernel
theorem dX13_enemies_18 : decode cX13_enemies 18 = .ok (.if_icmp .eq 17, 3) := by decide +kernel
theorem dX13_enemies_21 : decode cX13_enemies 21 = .ok (.aload_n 0, 1) := by decide +kernel
theorem dX13_enemies_22 : decode cX13_enemies 22 = .ok (.getfield 132, 3) := by decide +kernel
theorem dX13_enemies_25 : decode cX13_enemies 25 = .ok (.bipush 12, 2) := by decide +kernel
theorem dX13_enemies_27 : decode cX13_enemies 27 = .ok (.iload_n 1, 1) := by decide +kernel
theorem dX13_enemies_28 : decode cX13_enemies 28 = .ok (.imul, 1) := by decide +kernel
theorem dX13_enemies_29 : decode cX13_enemies 29 = .ok (.iload_n 2, 1) := by decide +kernel
theorem dX13_enemies_30 : decode cX13_enemies 30 = .ok (.iadd, 1) := by decide +kernel
theorem dX13_enemies_31 : decode cX13_enemies 31 = .ok (.baload, 1) := by decide +kernel
theorem dX13_enemies_32 : decode cX13_enemies 32 = .ok (.ifCond .eq 5, 3) := by decide +kernel
theorem dX13_enemies_35 : decode cX13_enemies 35 = .ok (.iconst 0, 1) := by decide +kernel
theorem dX13_enemies_36 : decode cX13_enemies 36 = .ok (.ireturn, 1) := by decide +kernel
theorem dX13_enemies_37 : decode cX13_enemies 37 = .ok (.aload_n 0, 1) := by decide +kernel
theorem dX13_enemies_38 : decode cX13_enemies 38 = .ok (.getfield 132, 3) := by decide +kernel
theorem dX13_enemies_41 : decode cX13_enemies 41 = .ok (.bipush 12, 2) := by decide +kernel
theorem dX13_enemies_43 : decode cX13_enemies 43 = .ok (.iload_n 1, 1) := by decide +kernel
theorem dX13_enemies_44 : decode cX13_enemies 44 = .ok (.imul, 1) := by decide +kernel
theorem dX13_enemies_45 : decode cX13_enemies 45 = .ok (.iload_n 2, 1) := by decide +kernel
theorem dX13_enemies_46 : decode cX13_enemies 46 = .ok (.iadd, 1) := by decide +kernel
theorem dX13_enemies_47 : decode cX13_enemies 47 = .ok (.iconst 1, 1) := by decide +kernel
theorem dX13_enemies_48 : decode cX13_enemies 48 = .ok (.bastore, 1) := by decide +kernel
theorem dX13_enemies_49 : decode cX13_enemies 49 = .ok (.aload_n 0, 1) := by decide +kernel
theorem dX13_enemies_50 : decode cX13_enemies 50 = .ok (.getfield 132, 3) := by decide +kernel
theorem dX13_enemies_53 : decode cX13_enemies 53 = .ok (.bipush 12, 2) := by decide +kernel
theorem dX13_enemies_55 : decode cX13_enemies 55 = .ok (.iload_n 2, 1) := by decide +kernel
theorem dX13_enemies_56 : decode cX13_enemies 56 = .ok (.imul, 1) := by decide +kernel
theorem dX13_enemies_57 : decode cX13_enemies 57 = .ok (.iload_n 1, 1) := by decide +kernel
theorem dX13_enemies_58 : decode cX13_enemies 58 = .ok (.iadd, 1) := by decide +kernel
theorem dX13_enemies_59 : decode cX13_enemies 59 = .ok (.iconst 1, 1) := by decide +kernel
theorem dX13_enemies_60 : decode cX13_enemies 60 = .ok (.bastore, 1) := by decide +kernel
theorem dX13_enemies_61 : decode cX13_enemies 61 = .ok (.iconst 1, 1) := by decide +kernel
theorem dX13_enemies_62 : decode cX13_enemies 62 = .ok (.ireturn, 1) := by decide +kernel
theorem dX13_linesOf_0 : decode cX13_linesOf 0 = .ok (.iconst 0, 1) := by decide +kernel
theorem dX13_linesOf_1 : decode cX13_linesOf 1 = .ok (.istore_n 2, 1) := by decide +kernel
theorem dX13_linesOf_2 : decode cX13_linesOf 2 = .ok (.iconst 0, 1) := by decide +kernel
theorem dX13_linesOf_3 : decode cX13_linesOf 3 = .ok (.istore_n 3, 1) := by decide +kernel
theorem dX13_linesOf_4 : decode cX13_linesOf 4 = .ok (.iload_n 3, 1) := by decide +kernel
theorem dX13_linesOf_5 : decode cX13_linesOf 5 = .ok (.aload_n 0, 1) := by decide +kernel
theorem dX13_linesOf_6 : decode cX13_linesOf 6 = .ok (.getfield 452, 3) := by decide +kernel
theorem dX13_linesOf_9 : decode cX13_linesOf 9 = .ok (.if_icmp .ge 27, 3) := by decide +kernel
theorem dX13_linesOf_12 : decode cX13_linesOf 12 = .ok (.iload_n 2, 1) := by decide +kernel
theorem dX13_linesOf_13 : decode cX13_linesOf 13 = .ok (.aload_n 0, 1) := by decide +kernel
theorem dX13_linesOf_14 : decode cX13_linesOf 14 = .ok (.getfield 135, 3) := by decide +kernel
theorem dX13_linesOf_17 : decode cX13_linesOf 17 = .ok (.iload_n 3, 1) := by decide +kernel
theorem dX13_linesOf_18 : decode cX13_linesOf 18 = .ok (.iaload, 1) := by decide +kernel
theorem dX13_linesOf_19 : decode cX13_linesOf 19 = .ok (.iload_n 1, 1) := by decide +kernel
theorem dX13_linesOf_20 : decode cX13_linesOf 20 = .ok (.if_icmp .ne 7, 3) := by decide +kernel
theorem dX13_linesOf_23 : decode cX13_linesOf 23 = .ok (.iconst 1, 1) := by decide +kernel
theorem dX13_linesOf_24 : decode cX13_linesOf 24 = .ok (.goto 4, 3) := by decide +kernel
theorem dX13_linesOf_27 : decode cX13_linesOf 27 = .ok (.iconst 0, 1) := by decide +kernel
theorem dX13_linesOf_28 : decode cX13_linesOf 28 = .ok (.iadd, 1) := by decide +kernel
theorem dX13_linesOf_29 : decode cX13_linesOf 29 = .ok (.istore_n 2, 1) := by decide +kernel
theorem dX13_linesOf_30 : decode cX13_linesOf 30 = .ok (.iinc 3 1, 3) := by decide +kernel
theorem dX13_linesOf_33 : decode cX13_linesOf 33 = .ok (.goto (-29), 3) := by decide +kernel
theorem dX13_linesOf_36 : decode cX13_linesOf 36 = .ok (.iload_n 2, 1) := by decide +kernel
theorem dX13_linesOf_37 : decode cX13_linesOf 37 = .ok (.ireturn, 1) := by decide +kernel
set_option maxRecDepth 20000 in
theorem ggX13_isDone_X13_linesOf : GoodIn wsX13_isDone wsX13_linesOf := goodIn_r _ [7, 8, 9, 10, 11, 12, 13, 14, 15, 16, 17, 18, 19, 20, 21, 22, 23, 24, 25, 26, 27, 28, 29, 30, 31, 32, 33, 34, 35, 36, 37, 38, 39, 40, 41, 42, 43, 44, 45, 46, 47, 48, 49, 50, 51, 52, 53, 54, 55, 56, 57, 58, 59, 60, 61, 62, 63, 64, 65, 66, 67, 68, 69, 70, 71, 72, 73, 74, 75, 76, 77, 78, 79, 80, 81, 82, 83, 84, 85, 86, 87, 88, 89, 90, 91, 92, 93, 94, 95, 96, 97, 98, 99, 100, 101, 102, 103, 104, 105, 106, 107, 108, 109, 110, 111, 112, 113] (by decide +kernel) (by decide +kernel)
set_option maxRecDepth 20000 in
theorem gX13_isDone_X13_linesOf : GoodIn wsX13_isDone (wsV RX13 455 RX13 yX13_linesOf wsX13_linesOf) := goodIn_app (goodIn_of _ (by decide +kernel)) ggX13_isDone_X13_linesOf
theorem dX13_isDone_0 : decode cX13_isDone 0 = .ok (.aload_n 0, 1) := by decide +kernel
theorem dX13_isDone_1 : decode cX13_isDone 1 = .ok (.getfield 90, 3) := by decide +kernel
theorem dX13_isDone_4 : decode cX13_isDone 4 = .ok (.iload_n 1, 1) := by decide +kernel
theorem dX13_isDone_5 : decode cX13_isDone 5 = .ok (.iaload, 1) := by decide +kernel
theorem dX13_isDone_6 : decode cX13_isDone 6 = .ok (.ifCond .ne 21, 3) := by decide +kernel
theorem dX13_isDone_9 : decode cX13_isDone 9 = .ok (.aload_n 0, 1) := by decide +kernel
theorem dX13_isDone_10 : decode cX13_isDone 10 = .ok (.iload_n 1, 1) := by decide +kernel
theorem dX13_isDone_11 : decode cX13_isDone 11 = .ok (.invokevirtual 455, 3) := by decide +kernel
theorem dX13_isDone_14 : decode cX13_isDone 14 = .ok (.aload_n 0, 1) := by decide +kernel
theorem dX13_isDone_15 : decode cX13_isDone 15 = .ok (.getfield 99, 3) := by decide +kernel
theorem dX13_isDone_18 : decode cX13_isDone 18 = .ok (.iload_n 1, 1) := by decide +kernel
theorem dX13_isDone_19 : decode cX13_isDone 19 = .ok (.iaload, 1) := by decide +kernel
theorem dX13_isDone_20 : decode cX13_isDone 20 = .ok (.if_icmp .ne 7, 3) := by decide +kernel
theorem dX13_isDone_23 : decode cX13_isDone 23 = .ok (.iconst 1, 1) := by decide +kernel
theorem dX13_isDone_24 : decode cX13_isDone 24 = .ok (.goto 4, 3) := by decide +kernel
theorem dX13_isDone_27 : decode cX13_isDone 27 = .ok (.iconst 0, 1) := by decide +kernel
theorem dX13_isDone_28 : decode cX13_isDone 28 = .ok (.ireturn, 1) := by decide +kernel
theorem dX13_factsOf_0 : decode cX13_factsOf 0 = .ok (.iconst 0, 1) := by decide +kernel
theorem dX13_factsOf_1 : decode cX13_factsOf 1 = .ok (.istore_n 2, 1) := by decide +kernel
theorem dX13_factsOf_2 : decode cX13_factsOf 2 = .ok (.iconst 0, 1) := by decide +kernel
theorem dX13_factsOf_3 : decode cX13_factsOf 3 = .ok (.istore_n 3, 1) := by decide +kernel
theorem dX13_factsOf_4 : decode cX13_factsOf 4 = .ok (.iload_n 3, 1) := by decide +kernel
theorem dX13_factsOf_5 : decode cX13_factsOf 5 = .ok (.bipush 40, 2) := by decide +kernel
theorem dX13_factsOf_7 : decode cX13_factsOf 7 = .ok (.if_icmp .ge 77, 3) := by decide +kernel
theorem dX13_factsOf_10 : decode cX13_factsOf 10 = .ok (.iconst 0, 1) := by decide +kernel
theorem dX13_factsOf_11 : decode cX13_factsOf 11 = .ok (.istore 4, 2) := by decide +kernel
theorem dX13_factsOf_13 : decode cX13_factsOf 13 = .ok (.iconst 0, 1) := by decide +kernel
theorem dX13_factsOf_14 : decode cX13_factsOf 14 = .ok (.istore 5, 2) := by decide +kernel
theorem dX13_factsOf_16 : decode cX13_factsOf 16 = .ok (.iload 5, 2) := by decide +kernel
theorem dX13_factsOf_18 : decode cX13_factsOf 18 = .ok (.aload_n 0, 1) := by decide +kernel
theorem dX13_factsOf_19 : decode cX13_factsOf 19 = .ok (.getfield 452, 3) := by decide +kernel
theorem dX13_factsOf_22 : decode cX13_factsOf 22 = .ok (.if_icmp .ge 43, 3) := by decide +kernel
theorem dX13_factsOf_25 : decode cX13_factsOf 25 = .ok (.iload 4, 2) := by decide +kernel
theorem dX13_factsOf_27 : decode cX13_factsOf 27 = .ok (.ifCond .ne 38, 3) := by decide +kernel
theorem dX13_factsOf_30 : decode cX13_factsOf 30 = .ok (.aload_n 0, 1) := by decide +kernel
theorem dX13_factsOf_31 : decode cX13_factsOf 31 = .ok (.getfield 135, 3) := by decide +kernel
theorem dX13_factsOf_34 : decode cX13_factsOf 34 = .ok (.iload 5, 2) := by decide +kernel
theorem dX13_factsOf_36 : decode cX13_factsOf 36 = .ok (.iaload, 1) := by decide +kernel
theorem dX13_factsOf_37 : decode cX13_factsOf 37 = .ok (.iload_n 1, 1) := by decide +kernel
theorem dX13_factsOf_38 : decode cX13_factsOf 38 = .ok (.if_icmp .ne 18, 3) := by decide +kernel
theorem dX13_factsOf_41 : decode cX13_factsOf 41 = .ok (.aload_n 0, 1) := by decide +kernel
theorem dX13_factsOf_42 : decode cX13_factsOf 42 = .ok (.getfield 141, 3) := by decide +kernel
theorem dX13_factsOf_45 : decode cX13_factsOf 45 = .ok (.iload 5, 2) := by decide +kernel
theorem dX13_factsOf_47 : decode cX13_factsOf 47 = .ok (.iaload, 1) := by decide +kernel
theorem dX13_factsOf_48 : decode cX13_factsOf 48 = .ok (.iload_n 3, 1) := by decide +kernel
theorem dX13_factsOf_49 : decode cX13_factsOf 49 = .ok (.if_icmp .ne 7, 3) := by decide +kernel
theorem dX13_factsOf_52 : decode cX13_factsOf 52 = .ok (.iconst 1, 1) := by decide +kernel
theorem dX13_factsOf_53 : decode cX13_factsOf 53 = .ok (.goto 4, 3) := by decide +kernel
theorem dX13_factsOf_56 : decode cX13_factsOf 56 = .ok (.iconst 0, 1) := by decide +kernel
theorem dX13_factsOf_57 : decode cX13_factsOf 57 = .ok (.istore 4, 2) := by decide +kernel
theorem dX13_factsOf_59 : decode cX13_factsOf 59 = .ok (.iinc 5 1, 3) := by decide +kernel
theorem dX13_factsOf_62 : decode cX13_factsOf 62 = .ok (.goto (-46), 3) := by decide +kernel
theorem dX13_factsOf_65 : decode cX13_factsOf 65 = .ok (.iload_n 2, 1) := by decide +kernel
theorem dX13_factsOf_66 : decode cX13_factsOf 66 = .ok (.iload 4, 2) := by decide +kernel
theorem dX13_factsOf_68 : decode cX13_factsOf 68 = .ok (.ifCond .eq 7, 3) := by decide +kernel
theorem dX13_factsOf_71 : decode cX13_factsOf 71 = .ok (.iconst 1, 1) := by decide +kernel
theorem dX13_factsOf_72 : decode cX13_factsOf 72 = .ok (.goto 4, 3) := by decide +kernel
theorem dX13_factsOf_75 : decode cX13_factsOf 75 = .ok (.iconst 0, 1) := by decide +kernel
theorem dX13_factsOf_76 : decode cX13_factsOf 76 = .ok (.iadd, 1) := by decide +kernel
theorem dX13_factsOf_77 : decode cX13_factsOf 77 = .ok (.istore_n 2, 1) := by decide +kernel
theorem dX13_factsOf_78 : decode cX13_factsOf 78 = .ok (.iinc 3 1, 3) := by decide +kernel
theorem dX13_factsOf_81 : decode cX13_factsOf 81 = .ok (.goto (-77), 3) := by decide +kernel
theorem dX13_factsOf_84 : decode cX13_factsOf 84 = .ok (.iload_n 2, 1) := by decide +kernel
theorem dX13_factsOf_85 : decode cX13_factsOf 85 = .ok (.ireturn, 1) := by decide +kernel
set_option maxRecDepth 20000 in
theorem ggX13_lateOf_X13_isDone : GoodIn wsX13_lateOf wsX13_isDone := goodIn_r _ [9, 2, 10, 11, 12, 13, 8, 14, 15, 16, 17, 18, 19, 20, 21, 22, 23, 24, 25, 26, 27, 28, 29, 30, 31, 32, 33, 34, 35, 36, 37, 38, 39, 40, 41, 42, 43, 44, 45, 46, 47, 48, 49, 50, 51, 52, 53, 54, 55, 56, 57, 58, 59, 60, 61, 62, 63, 64, 65, 66, 67, 68, 69, 70, 71, 72, 73, 74, 75, 76, 77, 78, 79, 80, 81, 82, 83, 84, 85, 86, 87, 88, 89, 90, 91, 92, 93, 94, 95, 96, 97, 98, 99, 100, 101, 102, 103, 104, 105, 106, 107, 108, 109, 110, 111, 112, 113, 114, 115, 116, 117, 118, 119, 120] (by decide +kernel) (by decide +kernel)
set_option maxRecDepth 20000 in
theorem gX13_lateOf_X13_isDone : GoodIn wsX13_lateOf (wsV RX13 458 RX13 yX13_isDone wsX13_isDone) := goodIn_app (goodIn_of _ (by decide +kernel)) ggX13_lateOf_X13_isDone
theorem dX13_lateOf_0 : decode cX13_lateOf 0 = .ok (.iconst 0, 1) := by decide +kernel
theorem dX13_lateOf_1 : decode cX13_lateOf 1 = .ok (.istore_n 2, 1) := by decide +kernel
theorem dX13_lateOf_2 : decode cX13_lateOf 2 = .ok (.iconst 0, 1) := by decide +kernel
theorem dX13_lateOf_3 : decode cX13_lateOf 3 = .ok (.istore_n 3, 1) := by decide +kernel
theorem dX13_lateOf_4 : decode cX13_lateOf 4 = .ok (.iload_n 3, 1) := by decide +kernel
theorem dX13_lateOf_5 : decode cX13_lateOf 5 = .ok (.aload_n 0, 1) := by decide +kernel
theorem dX13_lateOf_6 : decode cX13_lateOf 6 = .ok (.getfield 418, 3) := by decide +kernel
theorem dX13_lateOf_9 : decode cX13_lateOf 9 = .ok (.if_icmp .ge 53, 3) := by decide +kernel
theorem dX13_lateOf_12 : decode cX13_lateOf 12 = .ok (.iload_n 2, 1) := by decide +kernel
theorem dX13_lateOf_13 : decode cX13_lateOf 13 = .ok (.aload_n 0, 1) := by decide +kernel
theorem dX13_lateOf_14 : decode cX13_lateOf 14 = .ok (.getfield 90, 3) := by decide +kernel
theorem dX13_lateOf_17 : decode cX13_lateOf 17 = .ok (.iload_n 3, 1) := by decide +kernel
theorem dX13_lateOf_18 : decode cX13_lateOf 18 = .ok (.iaload, 1) := by decide +kernel
theorem dX13_lateOf_19 : decode cX13_lateOf 19 = .ok (.ifCond .ne 34, 3) := by decide +kernel
theorem dX13_lateOf_22 : decode cX13_lateOf 22 = .ok (.aload_n 0, 1) := by decide +kernel
theorem dX13_lateOf_23 : decode cX13_lateOf 23 = .ok (.getfield 105, 3) := by decide +kernel
theorem dX13_lateOf_26 : decode cX13_lateOf 26 = .ok (.iload_n 3, 1) := by decide +kernel
theorem dX13_lateOf_27 : decode cX13_lateOf 27 = .ok (.iaload, 1) := by decide +kernel
theorem dX13_lateOf_28 : decode cX13_lateOf 28 = .ok (.iload_n 1, 1) := by decide +kernel
theorem dX13_lateOf_29 : decode cX13_lateOf 29 = .ok (.if_icmp .ne 24, 3) := by decide +kernel
theorem dX13_lateOf_32 : decode cX13_lateOf 32 = .ok (.aload_n 0, 1) := by decide +kernel
theorem dX13_lateOf_33 : decode cX13_lateOf 33 = .ok (.getfield 108, 3) := by decide +kernel
theorem dX13_lateOf_36 : decode cX13_lateOf 36 = .ok (.iload_n 3, 1) := by decide +kernel
theorem dX13_lateOf_37 : decode cX13_lateOf 37 = .ok (.baload, 1) := by decide +kernel
theorem dX13_lateOf_38 : decode cX13_lateOf 38 = .ok (.ifCond .ne 15, 3) := by decide +kernel
theorem dX13_lateOf_41 : decode cX13_lateOf 41 = .ok (.aload_n 0, 1) := by decide +kernel
theorem dX13_lateOf_42 : decode cX13_lateOf 42 = .ok (.iload_n 3, 1) := by decide +kernel
theorem dX13_lateOf_43 : decode cX13_lateOf 43 = .ok (.invokevirtual 458, 3) := by decide +kernel
theorem dX13_lateOf_46 : decode cX13_lateOf 46 = .ok (.ifCond .ne 7, 3) := by decide +kernel
theorem dX13_lateOf_49 : decode cX13_lateOf 49 = .ok (.iconst 1, 1) := by decide +kernel
theorem dX13_lateOf_50 : decode cX13_lateOf 50 = .ok (.goto 4, 3) := by decide +kernel
theorem dX13_lateOf_53 : decode cX13_lateOf 53 = .ok (.iconst 0, 1) := by decide +kernel
theorem dX13_lateOf_54 : decode cX13_lateOf 54 = .ok (.iadd, 1) := by decide +kernel
theorem dX13_lateOf_55 : decode cX13_lateOf 55 = .ok (.istore_n 2, 1) := by decide +kernel
theorem dX13_lateOf_56 : decode cX13_lateOf 56 = .ok (.iinc 3 1, 3) := by decide +kernel
theorem dX13_lateOf_59 : decode cX13_lateOf 59 = .ok (.goto (-55), 3) := by decide +kernel
theorem dX13_lateOf_62 : decode cX13_lateOf 62 = .ok (.iload_n 2, 1) := by decide +kernel
theorem dX13_lateOf_63 : decode cX13_lateOf 63 = .ok (.ireturn, 1) := by decide +kernel
set_option maxRecDepth 20000 in
theorem ggX13_asks_X13_linesOf : GoodIn wsX13_asks wsX13_linesOf := goodIn_r _ [15, 16, 17, 95, 96, 97, 98, 99, 100, 101, 102, 103, 104, 105, 106, 107, 108, 109, 110, 111, 112, 113, 114, 115, 116, 117, 118, 119, 120, 121, 122, 123, 124, 125, 126, 127, 128, 129, 130, 131, 132, 133, 134, 135, 136, 137, 138, 139, 140, 141, 142, 143, 144, 145, 146, 147, 148, 149, 150, 151, 152, 153, 154, 155, 156, 157, 158, 159, 160, 161, 162, 163, 164, 165, 166, 167, 168, 169, 170, 171, 172, 173, 174, 175, 176, 177, 178, 179, 180, 181, 182, 183, 184, 185, 186, 187, 188, 189, 190, 191, 192, 193, 194, 195, 196, 197, 198] (by decide +kernel) (by decide +kernel)
set_option maxRecDepth 20000 in
theorem gX13_asks_X13_linesOf : GoodIn wsX13_asks (wsV RX13 455 RX13 yX13_linesOf wsX13_linesOf) := goodIn_app (goodIn_of _ (by decide +kernel)) ggX13_asks_X13_linesOf
set_option maxRecDepth 20000 in
theorem ggX13_asks_X13_factsOf : GoodIn wsX13_asks wsX13_factsOf := goodIn_r _ [21, 16, 17, 22, 95, 96, 97, 98, 99, 100, 101, 102, 103, 104, 105, 106, 107, 108, 109, 110, 111, 112, 113, 114, 115, 116, 117, 118, 119, 120, 121, 122, 123, 124, 125, 126, 127, 128, 129, 130, 131, 132, 133, 134, 135, 136, 137, 138, 139, 140, 141, 142, 143, 144, 145, 146, 147, 148, 149, 150, 151, 152, 153, 154, 155, 156, 157, 158, 159, 160, 161, 162, 163, 164, 165, 166, 167, 168, 169, 170, 171, 172, 173, 174, 175, 176, 177, 178, 179, 180, 181, 182, 183, 184, 185, 186, 187, 188, 189, 190, 191, 192, 193, 194, 195, 196, 197, 198] (by decide +kernel) (by decide +kernel)
set_option maxRecDepth 20000 in
theorem gX13_asks_X13_factsOf : GoodIn wsX13_asks (wsV RX13 461 RX13 yX13_factsOf wsX13_factsOf) := goodIn_app (goodIn_of _ (by decide +kernel)) ggX13_asks_X13_factsOf
set_option maxRecDepth 20000 in
theorem ggX13_asks_X13_volumeOf : GoodIn wsX13_asks wsX13_volumeOf := goodIn_r _ [26, 27, 28, 29, 30, 31, 32, 14, 33, 34, 9, 35, 36, 37, 38, 39, 40, 41, 42, 43, 44, 45, 46, 47, 48, 49, 50, 51, 52, 53, 54, 55, 56, 57, 58, 59, 60, 61, 62, 63, 64, 65, 1, 66, 67, 68, 69, 70, 71, 72, 73, 74, 75, 76, 77, 78, 79, 80, 81, 82, 83, 84, 85, 95, 96, 97, 98, 99, 100, 101, 102, 103, 104, 105, 106, 107, 108, 109, 110, 111, 112, 113, 114, 115, 116, 117, 118, 119, 120, 121, 122, 123, 124, 125, 126, 127, 128, 129, 130, 131, 132, 133, 134, 135, 136, 137, 138, 139, 140, 141, 142, 143, 144, 145, 146, 147, 148, 149, 150, 151, 152, 153, 154, 155, 156, 157, 158, 159, 160, 161, 162, 163, 164, 165, 166, 167, 168, 169, 170, 171, 172, 173, 174, 175, 176, 177, 178, 179, 180, 181, 182, 183, 184, 185, 186, 187, 188, 189, 190, 191, 192, 193, 194, 195, 196, 197, 198] (by decide +kernel) (by decide +kernel)
set_option maxRecDepth 20000 in
theorem gX13_asks_X13_volumeOf : GoodIn wsX13_asks (wsV RX13 433 RX13 yX13_volumeOf wsX13_volumeOf) := goodIn_app (goodIn_of _ (by decide +kernel)) ggX13_asks_X13_volumeOf
set_option maxRecDepth 20000 in
theorem ggX13_asks_X13_lateOf : GoodIn wsX13_asks wsX13_lateOf := goodIn_r _ [89, 3, 4, 90, 6, 91, 92, 93, 14, 94, 2, 11, 12, 13, 15, 16, 17, 95, 96, 97, 98, 99, 100, 101, 102, 103, 104, 105, 106, 107, 108, 109, 110, 111, 112, 113, 114, 115, 116, 117, 118, 119, 120, 121, 122, 123, 124, 125, 126, 127, 128, 129, 130, 131, 132, 133, 134, 135, 136, 137, 138, 139, 140, 141, 142, 143, 144, 145, 146, 147, 148, 149, 150, 151, 152, 153, 154, 155, 156, 157, 158, 159, 160, 161, 162, 163, 164, 165, 166, 167, 168, 169, 170, 171, 172, 173, 174, 175, 176, 177, 178, 179, 180, 181, 182, 183, 184, 185, 186, 187, 188, 189, 190, 191, 192, 193, 194, 195, 196, 197, 198] (by decide +kernel) (by decide +kernel)
set_option maxRecDepth 20000 in
theorem gX13_asks_X13_lateOf : GoodIn wsX13_asks (wsV RX13 464 RX13 yX13_lateOf wsX13_lateOf) := goodIn_app (goodIn_of _ (by decide +kernel)) ggX13_asks_X13_lateOf
theorem dX13_asks_0 : decode cX13_asks 0 = .ok (.aload_n 0, 1) := by decide +kernel
theorem dX13_asks_1 : decode cX13_asks 1 = .ok (.getfield 195, 3) := by decide +kernel
theorem dX13_asks_4 : decode cX13_asks 4 = .ok (.iconst 0, 1) := by decide +kernel
theorem dX13_asks_5 : decode cX13_asks 5 = .ok (.aload_n 0, 1) := by decide +kernel
theorem dX13_asks_6 : decode cX13_asks 6 = .ok (.getfield 99, 3) := by decide +kernel
theorem dX13_asks_9 : decode cX13_asks 9 = .ok (.iload_n 1, 1) := by decide +kernel
theorem dX13_asks_10 : decode cX13_asks 10 = .ok (.iaload, 1) := by decide +kernel
theorem dX13_asks_11 : decode cX13_asks 11 = .ok (.iastore, 1) := by decide +kernel
theorem dX13_asks_12 : decode cX13_asks 12 = .ok (.aload_n 0, 1) := by decide +kernel
theorem dX13_asks_13 : decode cX13_asks 13 = .ok (.getfield 195, 3) := by decide +kernel
theorem dX13_asks_16 : decode cX13_asks 16 = .ok (.iconst 1, 1) := by decide +kernel
theorem dX13_asks_17 : decode cX13_asks 17 = .ok (.aload_n 0, 1) := by decide +kernel
theorem dX13_asks_18 : decode cX13_asks 18 = .ok (.iload_n 1, 1) := by decide +kernel
theorem dX13_asks_19 : decode cX13_asks 19 = .ok (.invokevirtual 455, 3) := by decide +kernel
theorem dX13_asks_22 : decode cX13_asks 22 = .ok (.iastore, 1) := by decide +kernel
theorem dX13_asks_23 : decode cX13_asks 23 = .ok (.aload_n 0, 1) := by decide +kernel
theorem dX13_asks_24 : decode cX13_asks 24 = .ok (.getfield 195, 3) := by decide +kernel
theorem dX13_asks_27 : decode cX13_asks 27 = .ok (.iconst 2, 1) := by decide +kernel
theorem dX13_asks_28 : decode cX13_asks 28 = .ok (.aload_n 0, 1) := by decide +kernel
theorem dX13_asks_29 : decode cX13_asks 29 = .ok (.iload_n 1, 1) := by decide +kernel
theorem dX13_asks_30 : decode cX13_asks 30 = .ok (.invokevirtual 461, 3) := by decide +kernel
theorem dX13_asks_33 : decode cX13_asks 33 = .ok (.iastore, 1) := by decide +kernel
theorem dX13_asks_34 : decode cX13_asks 34 = .ok (.aload_n 0, 1) := by decide +kernel
theorem dX13_asks_35 : decode cX13_asks 35 = .ok (.getfield 195, 3) := by decide +kernel
theorem dX13_asks_38 : decode cX13_asks 38 = .ok (.iconst 3, 1) := by decide +kernel
theorem dX13_asks_39 : decode cX13_asks 39 = .ok (.iconst 0, 1) := by decide +kernel
theorem dX13_asks_40 : decode cX13_asks 40 = .ok (.iastore, 1) := by decide +kernel
theorem dX13_asks_41 : decode cX13_asks 41 = .ok (.iconst 0, 1) := by decide +kernel
theorem dX13_asks_42 : decode cX13_asks 42 = .ok (.istore_n 3, 1) := by decide +kernel
theorem dX13_asks_43 : decode cX13_asks 43 = .ok (.iload_n 3, 1) := by decide +kernel
theorem dX13_asks_44 : decode cX13_asks 44 = .ok (.aload_n 0, 1) := by decide +kernel
theorem dX13_asks_45 : decode cX13_asks 45 = .ok (.getfield 418, 3) := by decide +kernel
theorem dX13_asks_48 : decode cX13_asks 48 = .ok (.if_icmp .ge 52, 3) := by decide +kernel
theorem dX13_asks_51 : decode cX13_asks 51 = .ok (.aload_n 0, 1) := by decide +kernel
theorem dX13_asks_52 : decode cX13_asks 52 = .ok (.getfield 195, 3) := by decide +kernel
theorem dX13_asks_55 : decode cX13_asks 55 = .ok (.iconst 3, 1) := by decide +kernel
theorem dX13_asks_56 : decode cX13_asks 56 = .ok (.dup2, 1) := by decide +kernel
theorem dX13_asks_57 : decode cX13_asks 57 = .ok (.iaload, 1) := by decide +kernel
theorem dX13_asks_58 : decode cX13_asks 58 = .ok (.aload_n 0, 1) := by decide +kernel
theorem dX13_asks_59 : decode cX13_asks 59 = .ok (.getfield 90, 3) := by decide +kernel
theorem dX13_asks_62 : decode cX13_asks 62 = .ok (.iload_n 3, 1) := by decide +kernel
theorem dX13_asks_63 : decode cX13_asks 63 = .ok (.iaload, 1) := by decide +kernel
theorem dX13_asks_64 : decode cX13_asks 64 = .ok (.iconst 1, 1) := by decide +kernel
theorem dX13_asks_65 : decode cX13_asks 65 = .ok (.if_icmp .ne 26, 3) := by decide +kernel
theorem dX13_asks_68 : decode cX13_asks 68 = .ok (.aload_n 0, 1) := by decide +kernel
theorem dX13_asks_69 : decode cX13_asks 69 = .ok (.getfield 102, 3) := by decide +kernel
theorem dX13_asks_72 : decode cX13_asks 72 = .ok (.iload_n 3, 1) := by decide +kernel
theorem dX13_asks_73 : decode cX13_asks 73 = .ok (.iaload, 1) := by decide +kernel
theorem dX13_asks_74 : decode cX13_asks 74 = .ok (.iload_n 1, 1) := by decide +kernel
theorem dX13_asks_75 : decode cX13_asks 75 = .ok (.if_icmp .ne 16, 3) := by decide +kernel
theorem dX13_asks_78 : decode cX13_asks 78 = .ok (.aload_n 0, 1) := by decide +kernel
theorem dX13_asks_79 : decode cX13_asks 79 = .ok (.getfield 108, 3) := by decide +kernel
theorem dX13_asks_82 : decode cX13_asks 82 = .ok (.iload_n 3, 1) := by decide +kernel
theorem dX13_asks_83 : decode cX13_asks 83 = .ok (.baload, 1) := by decide +kernel
theorem dX13_asks_84 : decode cX13_asks 84 = .ok (.ifCond .ne 7, 3) := by decide +kernel
theorem dX13_asks_87 : decode cX13_asks 87 = .ok (.iconst 1, 1) := by decide +kernel
theorem dX13_asks_88 : decode cX13_asks 88 = .ok (.goto 4, 3) := by decide +kernel
theorem dX13_asks_91 : decode cX13_asks 91 = .ok (.iconst 0, 1) := by decide +kernel
theorem dX13_asks_92 : decode cX13_asks 92 = .ok (.iadd, 1) := by decide +kernel
theorem dX13_asks_93 : decode cX13_asks 93 = .ok (.iastore, 1) := by decide +kernel
theorem dX13_asks_94 : decode cX13_asks 94 = .ok (.iinc 3 1, 3) := by decide +kernel
theorem dX13_asks_97 : decode cX13_asks 97 = .ok (.goto (-54), 3) := by decide +kernel
theorem dX13_asks_100 : decode cX13_asks 100 = .ok (.aload_n 0, 1) := by decide +kernel
theorem dX13_asks_101 : decode cX13_asks 101 = .ok (.getfield 195, 3) := by decide +kernel
theorem dX13_asks_104 : decode cX13_asks 104 = .ok (.iconst 4, 1) := by decide +kernel
theorem dX13_asks_105 : decode cX13_asks 105 = .ok (.aload_n 0, 1) := by decide +kernel
theorem dX13_asks_106 : decode cX13_asks 106 = .ok (.getfield 96, 3) := by decide +kernel
theorem dX13_asks_109 : decode cX13_asks 109 = .ok (.iload_n 1, 1) := by decide +kernel
theorem dX13_asks_110 : decode cX13_asks 110 = .ok (.iaload, 1) := by decide +kernel
theorem dX13_asks_111 : decode cX13_asks 111 = .ok (.iastore, 1) := by decide +kernel
theorem dX13_asks_112 : decode cX13_asks 112 = .ok (.aload_n 0, 1) := by decide +kernel
theorem dX13_asks_113 : decode cX13_asks 113 = .ok (.getfield 195, 3) := by decide +kernel
theorem dX13_asks_116 : decode cX13_asks 116 = .ok (.bipush 7, 2) := by decide +kernel
theorem dX13_asks_118 : decode cX13_asks 118 = .ok (.aload_n 0, 1) := by decide +kernel
theorem dX13_asks_119 : decode cX13_asks 119 = .ok (.iload_n 1, 1) := by decide +kernel
theorem dX13_asks_120 : decode cX13_asks 120 = .ok (.invokevirtual 433, 3) := by decide +kernel
theorem dX13_asks_123 : decode cX13_asks 123 = .ok (.iastore, 1) := by decide +kernel
theorem dX13_asks_124 : decode cX13_asks 124 = .ok (.aload_n 0, 1) := by decide +kernel
theorem dX13_asks_125 : decode cX13_asks 125 = .ok (.getfield 195, 3) := by decide +kernel
theorem dX13_asks_128 : decode cX13_asks 128 = .ok (.iconst 5, 1) := by decide +kernel
theorem dX13_asks_129 : decode cX13_asks 129 = .ok (.iload_n 2, 1) := by decide +kernel
theorem dX13_asks_130 : decode cX13_asks 130 = .ok (.iconst (-1), 1) := by decide +kernel
theorem dX13_asks_131 : decode cX13_asks 131 = .ok (.if_icmp .ne 7, 3) := by decide +kernel
theorem dX13_asks_134 : decode cX13_asks 134 = .ok (.iconst 0, 1) := by decide +kernel
theorem dX13_asks_135 : decode cX13_asks 135 = .ok (.goto 9, 3) := by decide +kernel
theorem dX13_asks_138 : decode cX13_asks 138 = .ok (.aload_n 0, 1) := by decide +kernel
theorem dX13_asks_139 : decode cX13_asks 139 = .ok (.getfield 123, 3) := by decide +kernel
theorem dX13_asks_142 : decode cX13_asks 142 = .ok (.iload_n 2, 1) := by decide +kernel
theorem dX13_asks_143 : decode cX13_asks 143 = .ok (.iaload, 1) := by decide +kernel
theorem dX13_asks_144 : decode cX13_asks 144 = .ok (.iastore, 1) := by decide +kernel
theorem dX13_asks_145 : decode cX13_asks 145 = .ok (.aload_n 0, 1) := by decide +kernel
theorem dX13_asks_146 : decode cX13_asks 146 = .ok (.getfield 195, 3) := by decide +kernel
theorem dX13_asks_149 : decode cX13_asks 149 = .ok (.bipush 6, 2) := by decide +kernel
theorem dX13_asks_151 : decode cX13_asks 151 = .ok (.iload_n 2, 1) := by decide +kernel
theorem dX13_asks_152 : decode cX13_asks 152 = .ok (.iconst (-1), 1) := by decide +kernel
theorem dX13_asks_153 : decode cX13_asks 153 = .ok (.if_icmp .ne 7, 3) := by decide +kernel
theorem dX13_asks_156 : decode cX13_asks 156 = .ok (.iconst 0, 1) := by decide +kernel
theorem dX13_asks_157 : decode cX13_asks 157 = .ok (.goto 18, 3) := by decide +kernel
theorem dX13_asks_160 : decode cX13_asks 160 = .ok (.aload_n 0, 1) := by decide +kernel
theorem dX13_asks_161 : decode cX13_asks 161 = .ok (.getfield 383, 3) := by decide +kernel
theorem dX13_asks_164 : decode cX13_asks 164 = .ok (.aload_n 0, 1) := by decide +kernel
theorem dX13_asks_165 : decode cX13_asks 165 = .ok (.getfield 126, 3) := by decide +kernel
theorem dX13_asks_168 : decode cX13_asks 168 = .ok (.iload_n 2, 1) := by decide +kernel
theorem dX13_asks_169 : decode cX13_asks 169 = .ok (.iaload, 1) := by decide +kernel
theorem dX13_asks_170 : decode cX13_asks 170 = .ok (.isub, 1) := by decide +kernel
theorem dX13_asks_171 : decode cX13_asks 171 = .ok (.sipush 365, 3) := by decide +kernel
theorem dX13_asks_174 : decode cX13_asks 174 = .ok (.idiv, 1) := by decide +kernel
theorem dX13_asks_175 : decode cX13_asks 175 = .ok (.iastore, 1) := by decide +kernel
theorem dX13_asks_176 : decode cX13_asks 176 = .ok (.aload_n 0, 1) := by decide +kernel
theorem dX13_asks_177 : decode cX13_asks 177 = .ok (.getfield 195, 3) := by decide +kernel
theorem dX13_asks_180 : decode cX13_asks 180 = .ok (.bipush 8, 2) := by decide +kernel
theorem dX13_asks_182 : decode cX13_asks 182 = .ok (.iload_n 2, 1) := by decide +kernel
theorem dX13_asks_183 : decode cX13_asks 183 = .ok (.iconst (-1), 1) := by decide +kernel
theorem dX13_asks_184 : decode cX13_asks 184 = .ok (.if_icmp .ne 7, 3) := by decide +kernel
theorem dX13_asks_187 : decode cX13_asks 187 = .ok (.iconst 0, 1) := by decide +kernel
theorem dX13_asks_188 : decode cX13_asks 188 = .ok (.goto 8, 3) := by decide +kernel
theorem dX13_asks_191 : decode cX13_asks 191 = .ok (.aload_n 0, 1) := by decide +kernel
theorem dX13_asks_192 : decode cX13_asks 192 = .ok (.iload_n 2, 1) := by decide +kernel
theorem dX13_asks_193 : decode cX13_asks 193 = .ok (.invokevirtual 464, 3) := by decide +kernel
theorem dX13_asks_196 : decode cX13_asks 196 = .ok (.iastore, 1) := by decide +kernel
theorem dX13_asks_197 : decode cX13_asks 197 = .ok (.return_, 1) := by decide +kernel
set_option maxRecDepth 20000 in
theorem ggX13_mayBeGiven_X13_isArticle : GoodIn wsX13_mayBeGiven wsX13_isArticle := goodIn_r _ [15, 16, 17, 18, 19, 14, 20, 21, 22, 23, 24, 119, 120, 121, 122, 123, 124, 125, 126, 127, 128, 129, 130, 131, 132, 133, 134, 135, 136, 137, 138, 139, 140, 141, 142, 143, 144, 145, 146, 147, 148, 149, 150, 151, 152, 153, 154, 155, 156, 157, 158, 159, 160, 161, 162, 163, 164, 165, 166, 167, 168, 169, 170, 171, 172, 173, 174, 175, 176, 177, 178, 179, 180, 181, 182, 183, 184, 185, 186, 187, 188, 189, 190, 191, 192, 193, 194, 195, 196, 197, 198, 199, 200, 201, 202, 203, 204, 205, 206, 207, 208, 209, 210, 211, 212, 213, 214, 215, 216, 217, 218, 219, 220, 221, 222] (by decide +kernel) (by decide +kernel)
set_option maxRecDepth 20000 in
theorem gX13_mayBeGiven_X13_isArticle : GoodIn wsX13_mayBeGiven (wsV RX13 467 RX13 yX13_isArticle wsX13_isArticle) := goodIn_app (goodIn_of _ (by decide +kernel)) ggX13_mayBeGiven_X13_isArticle
set_option maxRecDepth 20000 in
theorem ggX13_mayBeGiven_X13_isDone : GoodIn wsX13_mayBeGiven wsX13_isDone := goodIn_r _ [28, 16, 29, 30, 31, 32, 14, 33, 6, 7, 119, 120, 121, 122, 123, 124, 125, 126, 127, 128, 129, 130, 131, 132, 133, 134, 135, 136, 137, 138, 139, 140, 141, 142, 143, 144, 145, 146, 147, 148, 149, 150, 151, 152, 153, 154, 155, 156, 157, 158, 159, 160, 161, 162, 163, 164, 165, 166, 167, 168, 169, 170, 171, 172, 173, 174, 175, 176, 177, 178, 179, 180, 181, 182, 183, 184, 185, 186, 187, 188, 189, 190, 191, 192, 193, 194, 195, 196, 197, 198, 199, 200, 201, 202, 203, 204, 205, 206, 207, 208, 209, 210, 211, 212, 213, 214, 215, 216, 217, 218, 219, 220, 221, 222] (by decide +kernel) (by decide +kernel)
set_option maxRecDepth 20000 in
theorem gX13_mayBeGiven_X13_isDone : GoodIn wsX13_mayBeGiven (wsV RX13 458 RX13 yX13_isDone wsX13_isDone) := goodIn_app (goodIn_of _ (by decide +kernel)) ggX13_mayBeGiven_X13_isDone
set_option maxRecDepth 20000 in
theorem ggX13_mayBeGiven_X13_isHand : GoodIn wsX13_mayBeGiven wsX13_isHand := goodIn_r _ [37, 38, 22, 23, 14, 24, 119, 120, 121, 122, 123, 124, 125, 126, 127, 128, 129, 130, 131, 132, 133, 134, 135, 136, 137, 138, 139, 140, 141, 142, 143, 144, 145, 146, 147, 148, 149, 150, 151, 152, 153, 154, 155, 156, 157, 158, 159, 160, 161, 162, 163, 164, 165, 166, 167, 168, 169, 170, 171, 172, 173, 174, 175, 176, 177, 178, 179, 180, 181, 182, 183, 184, 185, 186, 187, 188, 189, 190, 191, 192, 193, 194, 195, 196, 197, 198, 199, 200, 201, 202, 203, 204, 205, 206, 207, 208, 209, 210, 211, 212, 213, 214, 215, 216, 217, 218, 219, 220, 221, 222] (by decide +kernel) (by decide +kernel)
set_option maxRecDepth 20000 in
theorem gX13_mayBeGiven_X13_isHand : GoodIn wsX13_mayBeGiven (wsV RX13 449 RX13 yX13_isHand wsX13_isHand) := goodIn_app (goodIn_of _ (by decide +kernel)) ggX13_mayBeGiven_X13_isHand
set_option maxRecDepth 20000 in
theorem ggX13_mayBeGiven_X13_asks : GoodIn wsX13_mayBeGiven wsX13_asks := goodIn_r _ [42, 43, 29, 21, 16, 44, 1, 5, 45, 10, 46, 30, 31, 32, 14, 33, 6, 7, 47, 48, 49, 50, 51, 52, 53, 54, 55, 2, 56, 57, 58, 59, 60, 61, 62, 63, 64, 65, 66, 67, 68, 69, 70, 71, 72, 73, 74, 75, 76, 77, 78, 79, 80, 81, 82, 83, 84, 85, 86, 87, 88, 89, 90, 91, 92, 93, 94, 95, 96, 97, 98, 99, 100, 101, 102, 103, 104, 105, 106, 107, 108, 109, 110, 111, 112, 113, 114, 115, 116, 117, 118, 25, 26, 27, 28, 119, 120, 121, 122, 123, 124, 125, 126, 127, 128, 129, 130, 131, 132, 133, 134, 135, 136, 137, 138, 139, 140, 141, 142, 143, 144, 145, 146, 147, 148, 149, 150, 151, 152, 153, 154, 155, 156, 157, 158, 159, 160, 161, 162, 163, 164, 165, 166, 167, 168, 169, 170, 171, 172, 173, 174, 175, 176, 177, 178, 179, 180, 181, 182, 183, 184, 185, 186, 187, 188, 189, 190, 191, 192, 193, 194, 195, 196, 197, 198, 199, 200, 201, 202, 203, 204, 205, 206, 207, 208, 209, 210, 211, 212, 213, 214, 215, 216, 217, 218, 219, 220, 221, 222] (by decide +kernel) (by decide +kernel)
set_option maxRecDepth 20000 in
theorem gX13_mayBeGiven_X13_asks : GoodIn wsX13_mayBeGiven (wsV RX13 470 RX13 yX13_asks wsX13_asks) := goodIn_app (goodIn_of _ (by decide +kernel)) ggX13_mayBeGiven_X13_asks
set_option maxRecDepth 20000 in
theorem ggX13_mayBeGiven_X13_volumeOf : GoodIn wsX13_mayBeGiven wsX13_volumeOf := goodIn_r _ [55, 2, 56, 57, 58, 59, 60, 14, 61, 62, 10, 63, 64, 65, 66, 67, 68, 69, 70, 71, 72, 73, 74, 75, 76, 77, 78, 79, 80, 81, 82, 83, 84, 85, 86, 87, 88, 89, 90, 91, 92, 93, 43, 94, 95, 96, 97, 98, 99, 100, 101, 102, 103, 104, 105, 106, 107, 108, 109, 110, 111, 112, 113, 119, 120, 121, 122, 123, 124, 125, 126, 127, 128, 129, 130, 131, 132, 133, 134, 135, 136, 137, 138, 139, 140, 141, 142, 143, 144, 145, 146, 147, 148, 149, 150, 151, 152, 153, 154, 155, 156, 157, 158, 159, 160, 161, 162, 163, 164, 165, 166, 167, 168, 169, 170, 171, 172, 173, 174, 175, 176, 177, 178, 179, 180, 181, 182, 183, 184, 185, 186, 187, 188, 189, 190, 191, 192, 193, 194, 195, 196, 197, 198, 199, 200, 201, 202, 203, 204, 205, 206, 207, 208, 209, 210, 211, 212, 213, 214, 215, 216, 217, 218, 219, 220, 221, 222] (by decide +kernel) (by decide +kernel)
set_option maxRecDepth 20000 in
theorem gX13_mayBeGiven_X13_volumeOf : GoodIn wsX13_mayBeGiven (wsV RX13 433 RX13 yX13_volumeOf wsX13_volumeOf) := goodIn_app (goodIn_of _ (by decide +kernel)) ggX13_mayBeGiven_X13_volumeOf
set_option maxRecDepth 20000 in
theorem ggX13_mayBeGiven_X13_tells : GoodIn wsX13_mayBeGiven wsX13_tells := goodIn_r _ [73, 74, 75, 76, 14, 77, 78, 79, 80, 81, 82, 83, 84, 85, 86, 87, 88, 89, 90, 91, 92, 93, 43, 94, 95, 96, 97, 98, 99, 100, 101, 102, 103, 119, 120, 121, 122, 123, 124, 125, 126, 127, 128, 129, 130, 131, 132, 133, 134, 135, 136, 137, 138, 139, 140, 141, 142, 143, 144, 145, 146, 147, 148, 149, 150, 151, 152, 153, 154, 155, 156, 157, 158, 159, 160, 161, 162, 163, 164, 165, 166, 167, 168, 169, 170, 171, 172, 173, 174, 175, 176, 177, 178, 179, 180, 181, 182, 183, 184, 185, 186, 187, 188, 189, 190, 191, 192, 193, 194, 195, 196, 197, 198, 199, 200, 201, 202, 203, 204, 205, 206, 207, 208, 209, 210, 211, 212, 213, 214, 215, 216, 217, 218, 219, 220, 221, 222] (by decide +kernel) (by decide +kernel)
set_option maxRecDepth 20000 in
theorem gX13_mayBeGiven_X13_tells : GoodIn wsX13_mayBeGiven (wsV RX13 404 RX13 yX13_tells wsX13_tells) := goodIn_app (goodIn_of _ (by decide +kernel)) ggX13_mayBeGiven_X13_tells
theorem dX13_mayBeGiven_0 : decode cX13_mayBeGiven 0 = .ok (.aload_n 0, 1) := by decide +kernel
theorem dX13_mayBeGiven_1 : decode cX13_mayBeGiven 1 = .ok (.iload_n 1, 1) := by decide +kernel
theorem dX13_mayBeGiven_2 : decode cX13_mayBeGiven 2 = .ok (.invokevirtual 467, 3) := by decide +kernel
theorem dX13_mayBeGiven_5 : decode cX13_mayBeGiven 5 = .ok (.ifCond .eq 65, 3) := by decide +kernel
theorem dX13_mayBeGiven_8 : decode cX13_mayBeGiven 8 = .ok (.aload_n 0, 1) := by decide +kernel
theorem dX13_mayBeGiven_9 : decode cX13_mayBeGiven 9 = .ok (.getfield 108, 3) := by decide +kernel
theorem dX13_mayBeGiven_12 : decode cX13_mayBeGiven 12 = .ok (.iload_n 1, 1) := by decide +kernel
theorem dX13_mayBeGiven_13 : decode cX13_mayBeGiven 13 = .ok (.baload, 1) := by decide +kernel
theorem dX13_mayBeGiven_14 : decode cX13_mayBeGiven 14 = .ok (.ifCond .ne 56, 3) := by decide +kernel
theorem dX13_mayBeGiven_17 : decode cX13_mayBeGiven 17 = .ok (.aload_n 0, 1) := by decide +kernel
theorem dX13_mayBeGiven_18 : decode cX13_mayBeGiven 18 = .ok (.getfield 114, 3) := by decide +kernel
theorem dX13_mayBeGiven_21 : decode cX13_mayBeGiven 21 = .ok (.iload_n 1, 1) := by decide +kernel
theorem dX13_mayBeGiven_22 : decode cX13_mayBeGiven 22 = .ok (.iaload, 1) := by decide +kernel
theorem dX13_mayBeGiven_23 : decode cX13_mayBeGiven 23 = .ok (.iconst (-1), 1) := by decide +kernel
theorem dX13_mayBeGiven_24 : decode cX13_mayBeGiven 24 = .ok (.if_icmp .ne 46, 3) := by decide +kernel
theorem dX13_mayBeGiven_27 : decode cX13_mayBeGiven 27 = .ok (.aload_n 0, 1) := by decide +kernel
theorem dX13_mayBeGiven_28 : decode cX13_mayBeGiven 28 = .ok (.iload_n 1, 1) := by decide +kernel
theorem dX13_mayBeGiven_29 : decode cX13_mayBeGiven 29 = .ok (.invokevirtual 458, 3) := by decide +kernel
theorem dX13_mayBeGiven_32 : decode cX13_mayBeGiven 32 = .ok (.ifCond .ne 38, 3) := by decide +kernel
theorem dX13_mayBeGiven_35 : decode cX13_mayBeGiven 35 = .ok (.aload_n 0, 1) := by decide +kernel
theorem dX13_mayBeGiven_36 : decode cX13_mayBeGiven 36 = .ok (.iload_n 2, 1) := by decide +kernel
theorem dX13_mayBeGiven_37 : decode cX13_mayBeGiven 37 = .ok (.invokevirtual 449, 3) := by decide +kernel
theorem dX13_mayBeGiven_40 : decode cX13_mayBeGiven 40 = .ok (.ifCond .eq 30, 3) := by decide +kernel
theorem dX13_mayBeGiven_43 : decode cX13_mayBeGiven 43 = .ok (.aload_n 0, 1) := by decide +kernel
theorem dX13_mayBeGiven_44 : decode cX13_mayBeGiven 44 = .ok (.getfield 129, 3) := by decide +kernel
theorem dX13_mayBeGiven_47 : decode cX13_mayBeGiven 47 = .ok (.iload_n 2, 1) := by decide +kernel
theorem dX13_mayBeGiven_48 : decode cX13_mayBeGiven 48 = .ok (.baload, 1) := by decide +kernel
theorem dX13_mayBeGiven_49 : decode cX13_mayBeGiven 49 = .ok (.ifCond .ne 21, 3) := by decide +kernel
theorem dX13_mayBeGiven_52 : decode cX13_mayBeGiven 52 = .ok (.aload_n 0, 1) := by decide +kernel
theorem dX13_mayBeGiven_53 : decode cX13_mayBeGiven 53 = .ok (.getfield 120, 3) := by decide +kernel
theorem dX13_mayBeGiven_56 : decode cX13_mayBeGiven 56 = .ok (.iload_n 2, 1) := by decide +kernel
theorem dX13_mayBeGiven_57 : decode cX13_mayBeGiven 57 = .ok (.iaload, 1) := by decide +kernel
theorem dX13_mayBeGiven_58 : decode cX13_mayBeGiven 58 = .ok (.aload_n 0, 1) := by decide +kernel
theorem dX13_mayBeGiven_59 : decode cX13_mayBeGiven 59 = .ok (.getfield 96, 3) := by decide +kernel
theorem dX13_mayBeGiven_62 : decode cX13_mayBeGiven 62 = .ok (.iload_n 1, 1) := by decide +kernel
theorem dX13_mayBeGiven_63 : decode cX13_mayBeGiven 63 = .ok (.iaload, 1) := by decide +kernel
theorem dX13_mayBeGiven_64 : decode cX13_mayBeGiven 64 = .ok (.ishr, 1) := by decide +kernel
theorem dX13_mayBeGiven_65 : decode cX13_mayBeGiven 65 = .ok (.iconst 1, 1) := by decide +kernel
theorem dX13_mayBeGiven_66 : decode cX13_mayBeGiven 66 = .ok (.iand, 1) := by decide +kernel
theorem dX13_mayBeGiven_67 : decode cX13_mayBeGiven 67 = .ok (.ifCond .ne 5, 3) := by decide +kernel
theorem dX13_mayBeGiven_70 : decode cX13_mayBeGiven 70 = .ok (.iconst 0, 1) := by decide +kernel
theorem dX13_mayBeGiven_71 : decode cX13_mayBeGiven 71 = .ok (.ireturn, 1) := by decide +kernel
theorem dX13_mayBeGiven_72 : decode cX13_mayBeGiven 72 = .ok (.iconst 0, 1) := by decide +kernel
theorem dX13_mayBeGiven_73 : decode cX13_mayBeGiven 73 = .ok (.istore_n 3, 1) := by decide +kernel
theorem dX13_mayBeGiven_74 : decode cX13_mayBeGiven 74 = .ok (.iload_n 3, 1) := by decide +kernel
theorem dX13_mayBeGiven_75 : decode cX13_mayBeGiven 75 = .ok (.aload_n 0, 1) := by decide +kernel
theorem dX13_mayBeGiven_76 : decode cX13_mayBeGiven 76 = .ok (.getfield 452, 3) := by decide +kernel
theorem dX13_mayBeGiven_79 : decode cX13_mayBeGiven 79 = .ok (.if_icmp .ge 40, 3) := by decide +kernel
theorem dX13_mayBeGiven_82 : decode cX13_mayBeGiven 82 = .ok (.aload_n 0, 1) := by decide +kernel
theorem dX13_mayBeGiven_83 : decode cX13_mayBeGiven 83 = .ok (.getfield 135, 3) := by decide +kernel
theorem dX13_mayBeGiven_86 : decode cX13_mayBeGiven 86 = .ok (.iload_n 3, 1) := by decide +kernel
theorem dX13_mayBeGiven_87 : decode cX13_mayBeGiven 87 = .ok (.iaload, 1) := by decide +kernel
theorem dX13_mayBeGiven_88 : decode cX13_mayBeGiven 88 = .ok (.iload_n 1, 1) := by decide +kernel
theorem dX13_mayBeGiven_89 : decode cX13_mayBeGiven 89 = .ok (.if_icmp .ne 24, 3) := by decide +kernel
theorem dX13_mayBeGiven_92 : decode cX13_mayBeGiven 92 = .ok (.aload_n 0, 1) := by decide +kernel
theorem dX13_mayBeGiven_93 : decode cX13_mayBeGiven 93 = .ok (.getfield 132, 3) := by decide +kernel
theorem dX13_mayBeGiven_96 : decode cX13_mayBeGiven 96 = .ok (.bipush 12, 2) := by decide +kernel
theorem dX13_mayBeGiven_98 : decode cX13_mayBeGiven 98 = .ok (.iload_n 2, 1) := by decide +kernel
theorem dX13_mayBeGiven_99 : decode cX13_mayBeGiven 99 = .ok (.imul, 1) := by decide +kernel
theorem dX13_mayBeGiven_100 : decode cX13_mayBeGiven 100 = .ok (.aload_n 0, 1) := by decide +kernel
theorem dX13_mayBeGiven_101 : decode cX13_mayBeGiven 101 = .ok (.getfield 138, 3) := by decide +kernel
theorem dX13_mayBeGiven_104 : decode cX13_mayBeGiven 104 = .ok (.iload_n 3, 1) := by decide +kernel
theorem dX13_mayBeGiven_105 : decode cX13_mayBeGiven 105 = .ok (.iaload, 1) := by decide +kernel
theorem dX13_mayBeGiven_106 : decode cX13_mayBeGiven 106 = .ok (.iadd, 1) := by decide +kernel
theorem dX13_mayBeGiven_107 : decode cX13_mayBeGiven 107 = .ok (.baload, 1) := by decide +kernel
theorem dX13_mayBeGiven_108 : decode cX13_mayBeGiven 108 = .ok (.ifCond .eq 5, 3) := by decide +kernel
theorem dX13_mayBeGiven_111 : decode cX13_mayBeGiven 111 = .ok (.iconst 0, 1) := by decide +kernel
theorem dX13_mayBeGiven_112 : decode cX13_mayBeGiven 112 = .ok (.ireturn, 1) := by decide +kernel
theorem dX13_mayBeGiven_113 : decode cX13_mayBeGiven 113 = .ok (.iinc 3 1, 3) := by decide +kernel
theorem dX13_mayBeGiven_116 : decode cX13_mayBeGiven 116 = .ok (.goto (-42), 3) := by decide +kernel
theorem dX13_mayBeGiven_119 : decode cX13_mayBeGiven 119 = .ok (.aload_n 0, 1) := by decide +kernel
theorem dX13_mayBeGiven_120 : decode cX13_mayBeGiven 120 = .ok (.iload_n 1, 1) := by decide +kernel
theorem dX13_mayBeGiven_121 : decode cX13_mayBeGiven 121 = .ok (.iload_n 2, 1) := by decide +kernel
theorem dX13_mayBeGiven_122 : decode cX13_mayBeGiven 122 = .ok (.invokevirtual 470, 3) := by decide +kernel
theorem dX13_mayBeGiven_125 : decode cX13_mayBeGiven 125 = .ok (.aload_n 0, 1) := by decide +kernel
theorem dX13_mayBeGiven_126 : decode cX13_mayBeGiven 126 = .ok (.iconst 2, 1) := by decide +kernel
theorem dX13_mayBeGiven_127 : decode cX13_mayBeGiven 127 = .ok (.aload_n 0, 1) := by decide +kernel
theorem dX13_mayBeGiven_128 : decode cX13_mayBeGiven 128 = .ok (.iload_n 1, 1) := by decide +kernel
theorem dX13_mayBeGiven_129 : decode cX13_mayBeGiven 129 = .ok (.invokevirtual 433, 3) := by decide +kernel
theorem dX13_mayBeGiven_132 : decode cX13_mayBeGiven 132 = .ok (.aload_n 0, 1) := by decide +kernel
theorem dX13_mayBeGiven_133 : decode cX13_mayBeGiven 133 = .ok (.getfield 383, 3) := by decide +kernel
theorem dX13_mayBeGiven_136 : decode cX13_mayBeGiven 136 = .ok (.invokevirtual 404, 3) := by decide +kernel
theorem dX13_mayBeGiven_139 : decode cX13_mayBeGiven 139 = .ok (.ifCond .eq 7, 3) := by decide +kernel
theorem dX13_mayBeGiven_142 : decode cX13_mayBeGiven 142 = .ok (.iconst 1, 1) := by decide +kernel
theorem dX13_mayBeGiven_143 : decode cX13_mayBeGiven 143 = .ok (.goto 4, 3) := by decide +kernel
theorem dX13_mayBeGiven_146 : decode cX13_mayBeGiven 146 = .ok (.iconst 0, 1) := by decide +kernel
theorem dX13_mayBeGiven_147 : decode cX13_mayBeGiven 147 = .ok (.ireturn, 1) := by decide +kernel
set_option maxRecDepth 20000 in
theorem ggX13_give_X13_mayBeGiven : GoodIn wsX13_give wsX13_mayBeGiven := goodIn_r _ [6, 7, 8, 9, 10, 11, 12, 13, 14, 15, 16, 17, 18, 19, 5, 20, 21, 22, 23, 24, 25, 26, 27, 28, 29, 30, 31, 32, 33, 34, 35, 36, 37, 38, 39, 40, 41, 42, 43, 44, 45, 46, 47, 48, 49, 50, 51, 52, 53, 54, 55, 56, 57, 58, 59, 60, 61, 62, 63, 64, 65, 66, 67, 68, 69, 70, 71, 72, 73, 74, 75, 76, 77, 78, 79, 80, 81, 82, 83, 84, 85, 86, 87, 88, 89, 90, 91, 92, 93, 94, 95, 96, 97, 98, 99, 100, 101, 102, 103, 104, 105, 106, 107, 108, 109, 110, 111, 112, 113, 114, 115, 116, 117, 118, 119, 120, 121, 122, 1, 123, 124, 125, 126, 127, 128, 129, 130, 131, 132, 133, 134, 135, 136, 137, 138, 139, 140, 141, 142, 143, 144, 145, 146, 147, 148, 149, 150, 151, 152, 153, 154, 155, 156, 157, 158, 159, 160, 161, 162, 163, 164, 165, 166, 167, 168, 169, 170, 171, 172, 173, 174, 175, 176, 177, 178, 179, 180, 181, 182, 183, 184, 185, 186, 187, 188, 189, 190, 191, 192, 193, 194, 195, 196, 197, 198, 199, 200, 201, 202, 203, 204, 205, 206, 207, 208, 209, 210, 211, 212, 213, 214, 215, 216, 217, 218, 219, 220, 221, 222, 223, 224, 225, 226] (by decide +kernel) (by decide +kernel)
set_option maxRecDepth 20000 in
theorem gX13_give_X13_mayBeGiven : GoodIn wsX13_give (wsV RX13 473 RX13 yX13_mayBeGiven wsX13_mayBeGiven) := goodIn_app (goodIn_of _ (by decide +kernel)) ggX13_give_X13_mayBeGiven
theorem dX13_give_0 : decode cX13_give 0 = .ok (.aload_n 0, 1) := by decide +kernel
theorem dX13_give_1 : decode cX13_give 1 = .ok (.iload_n 1, 1) := by decide +kernel
theorem dX13_give_2 : decode cX13_give 2 = .ok (.iload_n 2, 1) := by decide +kernel
theorem dX13_give_3 : decode cX13_give 3 = .ok (.invokevirtual 473, 3) := by decide +kernel
theorem dX13_give_6 : decode cX13_give 6 = .ok (.ifCond .ne 5, 3) := by decide +kernel
theorem dX13_give_9 : decode cX13_give 9 = .ok (.iconst 0, 1) := by decide +kernel
theorem dX13_give_10 : decode cX13_give 10 = .ok (.ireturn, 1) := by decide +kernel
theorem dX13_give_11 : decode cX13_give 11 = .ok (.aload_n 0, 1) := by decide +kernel
theorem dX13_give_12 : decode cX13_give 12 = .ok (.getfield 105, 3) := by decide +kernel
theorem dX13_give_15 : decode cX13_give 15 = .ok (.iload_n 1, 1) := by decide +kernel
theorem dX13_give_16 : decode cX13_give 16 = .ok (.iload_n 2, 1) := by decide +kernel
theorem dX13_give_17 : decode cX13_give 17 = .ok (.iastore, 1) := by decide +kernel
theorem dX13_give_18 : decode cX13_give 18 = .ok (.iconst 1, 1) := by decide +kernel
theorem dX13_give_19 : decode cX13_give 19 = .ok (.ireturn, 1) := by decide +kernel
theorem dX13_knownOf_0 : decode cX13_knownOf 0 = .ok (.aload_n 0, 1) := by decide +kernel
theorem dX13_knownOf_1 : decode cX13_knownOf 1 = .ok (.getfield 476, 3) := by decide +kernel
theorem dX13_knownOf_4 : decode cX13_knownOf 4 = .ok (.iconst 1, 1) := by decide +kernel
theorem dX13_knownOf_5 : decode cX13_knownOf 5 = .ok (.isub, 1) := by decide +kernel
theorem dX13_knownOf_6 : decode cX13_knownOf 6 = .ok (.istore_n 3, 1) := by decide +kernel
theorem dX13_knownOf_7 : decode cX13_knownOf 7 = .ok (.iload_n 3, 1) := by decide +kernel
theorem dX13_knownOf_8 : decode cX13_knownOf 8 = .ok (.ifCond .lt 31, 3) := by decide +kernel
theorem dX13_knownOf_11 : decode cX13_knownOf 11 = .ok (.aload_n 0, 1) := by decide +kernel
theorem dX13_knownOf_12 : decode cX13_knownOf 12 = .ok (.getfield 162, 3) := by decide +kernel
theorem dX13_knownOf_15 : decode cX13_knownOf 15 = .ok (.iload_n 3, 1) := by decide +kernel
theorem dX13_knownOf_16 : decode cX13_knownOf 16 = .ok (.iaload, 1) := by decide +kernel
theorem dX13_knownOf_17 : decode cX13_knownOf 17 = .ok (.iload_n 1, 1) := by decide +kernel
theorem dX13_knownOf_18 : decode cX13_knownOf 18 = .ok (.if_icmp .ne 15, 3) := by decide +kernel
theorem dX13_knownOf_21 : decode cX13_knownOf 21 = .ok (.aload_n 0, 1) := by decide +kernel
theorem dX13_knownOf_22 : decode cX13_knownOf 22 = .ok (.getfield 171, 3) := by decide +kernel
theorem dX13_knownOf_25 : decode cX13_knownOf 25 = .ok (.iload_n 3, 1) := by decide +kernel
theorem dX13_knownOf_26 : decode cX13_knownOf 26 = .ok (.iaload, 1) := by decide +kernel
theorem dX13_knownOf_27 : decode cX13_knownOf 27 = .ok (.iload_n 2, 1) := by decide +kernel
theorem dX13_knownOf_28 : decode cX13_knownOf 28 = .ok (.if_icmp .gt 5, 3) := by decide +kernel
theorem dX13_knownOf_31 : decode cX13_knownOf 31 = .ok (.iload_n 3, 1) := by decide +kernel
theorem dX13_knownOf_32 : decode cX13_knownOf 32 = .ok (.ireturn, 1) := by decide +kernel
theorem dX13_knownOf_33 : decode cX13_knownOf 33 = .ok (.iinc 3 (-1), 3) := by decide +kernel
theorem dX13_knownOf_36 : decode cX13_knownOf 36 = .ok (.goto (-29), 3) := by decide +kernel
theorem dX13_knownOf_39 : decode cX13_knownOf 39 = .ok (.iconst (-1), 1) := by decide +kernel
theorem dX13_knownOf_40 : decode cX13_knownOf 40 = .ok (.ireturn, 1) := by decide +kernel
set_option maxRecDepth 20000 in
theorem ggX13_valueOf_X13_knownOf : GoodIn wsX13_valueOf wsX13_knownOf := goodIn_r _ [6, 7, 8, 9, 10, 11, 12, 13, 14, 15, 16, 17, 18, 19, 20, 21, 22, 23, 24, 25, 26, 27, 28, 29, 30, 31, 32, 33, 34, 35, 36, 37, 38, 39, 40, 41, 42, 43, 44, 45, 46, 47, 48, 49, 50, 51, 52, 53, 54, 55, 56, 57, 58, 59, 60, 61, 62, 63, 64, 65, 66, 67, 68, 69, 70, 71, 72, 73, 74, 75, 76, 77, 78, 79, 80, 81, 82, 83, 84, 85, 86, 87, 88, 89, 90, 91, 92, 93, 94, 95, 96, 97, 98, 99, 100, 101, 102, 103, 104, 105, 106, 107, 108, 109, 110, 111, 112, 113] (by decide +kernel) (by decide +kernel)
set_option maxRecDepth 20000 in
theorem gX13_valueOf_X13_knownOf : GoodIn wsX13_valueOf (wsV RX13 479 RX13 yX13_knownOf wsX13_knownOf) := goodIn_app (goodIn_of _ (by decide +kernel)) ggX13_valueOf_X13_knownOf
theorem dX13_valueOf_0 : decode cX13_valueOf 0 = .ok (.aload_n 0, 1) := by decide +kernel
theorem dX13_valueOf_1 : decode cX13_valueOf 1 = .ok (.iload_n 1, 1) := by decide +kernel
theorem dX13_valueOf_2 : decode cX13_valueOf 2 = .ok (.iload_n 2, 1) := by decide +kernel
theorem dX13_valueOf_3 : decode cX13_valueOf 3 = .ok (.invokevirtual 479, 3) := by decide +kernel
theorem dX13_valueOf_6 : decode cX13_valueOf 6 = .ok (.istore_n 3, 1) := by decide +kernel
theorem dX13_valueOf_7 : decode cX13_valueOf 7 = .ok (.iload_n 3, 1) := by decide +kernel
theorem dX13_valueOf_8 : decode cX13_valueOf 8 = .ok (.iconst (-1), 1) := by decide +kernel
theorem dX13_valueOf_9 : decode cX13_valueOf 9 = .ok (.if_icmp .ne 7, 3) := by decide +kernel
theorem dX13_valueOf_12 : decode cX13_valueOf 12 = .ok (.iconst (-1), 1) := by decide +kernel
theorem dX13_valueOf_13 : decode cX13_valueOf 13 = .ok (.goto 9, 3) := by decide +kernel
theorem dX13_valueOf_16 : decode cX13_valueOf 16 = .ok (.aload_n 0, 1) := by decide +kernel
theorem dX13_valueOf_17 : decode cX13_valueOf 17 = .ok (.getfield 165, 3) := by decide +kernel
theorem dX13_valueOf_20 : decode cX13_valueOf 20 = .ok (.iload_n 3, 1) := by decide +kernel
theorem dX13_valueOf_21 : decode cX13_valueOf 21 = .ok (.iaload, 1) := by decide +kernel
theorem dX13_valueOf_22 : decode cX13_valueOf 22 = .ok (.ireturn, 1) := by decide +kernel
set_option maxRecDepth 20000 in
theorem ggX13_line_X13_isArticle : GoodIn wsX13_line wsX13_isArticle := goodIn_r _ [19, 20, 21, 22, 23, 18, 24, 25, 26, 27, 28, 130, 131, 132, 133, 134, 135, 136, 137, 138, 139, 140, 141, 142, 143, 144, 145, 146, 147, 148, 149, 150, 151, 152, 153, 154, 155, 156, 157, 158, 159, 160, 161, 162, 163, 164, 165, 166, 167, 168, 169, 170, 171, 172, 173, 174, 175, 176, 177, 178, 179, 180, 181, 182, 183, 184, 185, 186, 187, 188, 189, 190, 191, 192, 193, 194, 195, 196, 197, 198, 199, 200, 201, 202, 203, 204, 205, 206, 207, 208, 209, 210, 211, 212, 213, 214, 215, 216, 217, 218, 219, 220, 221, 222, 223, 224, 225, 226, 227, 228, 229, 230, 231, 232, 233] (by decide +kernel) (by decide +kernel)
set_option maxRecDepth 20000 in
theorem gX13_line_X13_isArticle : GoodIn wsX13_line (wsV RX13 467 RX13 yX13_isArticle wsX13_isArticle) := goodIn_app (goodIn_of _ (by decide +kernel)) ggX13_line_X13_isArticle
set_option maxRecDepth 20000 in
theorem ggX13_line_X13_isDone : GoodIn wsX13_line wsX13_isDone := goodIn_r _ [32, 20, 33, 34, 35, 36, 18, 37, 4, 7, 130, 131, 132, 133, 134, 135, 136, 137, 138, 139, 140, 141, 142, 143, 144, 145, 146, 147, 148, 149, 150, 151, 152, 153, 154, 155, 156, 157, 158, 159, 160, 161, 162, 163, 164, 165, 166, 167, 168, 169, 170, 171, 172, 173, 174, 175, 176, 177, 178, 179, 180, 181, 182, 183, 184, 185, 186, 187, 188, 189, 190, 191, 192, 193, 194, 195, 196, 197, 198, 199, 200, 201, 202, 203, 204, 205, 206, 207, 208, 209, 210, 211, 212, 213, 214, 215, 216, 217, 218, 219, 220, 221, 222, 223, 224, 225, 226, 227, 228, 229, 230, 231, 232, 233] (by decide +kernel) (by decide +kernel)
set_option maxRecDepth 20000 in
theorem gX13_line_X13_isDone : GoodIn wsX13_line (wsV RX13 458 RX13 yX13_isDone wsX13_isDone) := goodIn_app (goodIn_of _ (by decide +kernel)) ggX13_line_X13_isDone
set_option maxRecDepth 20000 in
theorem ggX13_line_X13_volumeOf : GoodIn wsX13_line wsX13_volumeOf := goodIn_r _ [41, 42, 43, 44, 45, 46, 47, 18, 48, 49, 5, 50, 51, 52, 53, 54, 55, 56, 57, 58, 59, 60, 61, 62, 63, 64, 65, 66, 67, 68, 69, 70, 71, 72, 73, 74, 75, 76, 77, 78, 79, 80, 81, 82, 83, 84, 85, 86, 87, 88, 89, 90, 91, 92, 93, 94, 95, 96, 97, 98, 99, 100, 101, 130, 131, 132, 133, 134, 135, 136, 137, 138, 139, 140, 141, 142, 143, 144, 145, 146, 147, 148, 149, 150, 151, 152, 153, 154, 155, 156, 157, 158, 159, 160, 161, 162, 163, 164, 165, 166, 167, 168, 169, 170, 171, 172, 173, 174, 175, 176, 177, 178, 179, 180, 181, 182, 183, 184, 185, 186, 187, 188, 189, 190, 191, 192, 193, 194, 195, 196, 197, 198, 199, 200, 201, 202, 203, 204, 205, 206, 207, 208, 209, 210, 211, 212, 213, 214, 215, 216, 217, 218, 219, 220, 221, 222, 223, 224, 225, 226, 227, 228, 229, 230, 231, 232, 233] (by decide +kernel) (by decide +kernel)
set_option maxRecDepth 20000 in
theorem gX13_line_X13_volumeOf : GoodIn wsX13_line (wsV RX13 433 RX13 yX13_volumeOf wsX13_volumeOf) := goodIn_app (goodIn_of _ (by decide +kernel)) ggX13_line_X13_volumeOf
set_option maxRecDepth 20000 in
theorem ggX13_line_X13_in : GoodIn wsX13_line wsX13_in := goodIn_r _ [28] (by decide +kernel) (by decide +kernel)
set_option maxRecDepth 20000 in
theorem gX13_line_X13_in : GoodIn wsX13_line (va_wsS RX13 256 yX13_in wsX13_in) := goodIn_app (goodIn_of _ (by decide +kernel)) ggX13_line_X13_in
set_option maxRecDepth 20000 in
theorem ggX13_line_X13_valueOf : GoodIn wsX13_line wsX13_valueOf := goodIn_r _ [105, 106, 107, 108, 109, 18, 110, 111, 112, 113, 130, 131, 132, 133, 134, 135, 136, 137, 138, 139, 140, 141, 142, 143, 144, 145, 146, 147, 148, 149, 150, 151, 152, 153, 154, 155, 156, 157, 158, 159, 160, 161, 162, 163, 164, 165, 166, 167, 168, 169, 170, 171, 172, 173, 174, 175, 176, 177, 178, 179, 180, 181, 182, 183, 184, 185, 186, 187, 188, 189, 190, 191, 192, 193, 194, 195, 196, 197, 198, 199, 200, 201, 202, 203, 204, 205, 206, 207, 208, 209, 210, 211, 212, 213, 214, 215, 216, 217, 218, 219, 220, 221, 222, 223, 224, 225, 226, 227, 228, 229, 230, 231, 232, 233] (by decide +kernel) (by decide +kernel)
set_option maxRecDepth 20000 in
theorem gX13_line_X13_valueOf : GoodIn wsX13_line (wsV RX13 482 RX13 yX13_valueOf wsX13_valueOf) := goodIn_app (goodIn_of _ (by decide +kernel)) ggX13_line_X13_valueOf
set_option maxRecDepth 20000 in
theorem ggX13_line_X13_asks : GoodIn wsX13_line wsX13_asks := goodIn_r _ [117, 81, 33, 25, 20, 118, 3, 119, 120, 5, 121, 34, 35, 36, 18, 37, 4, 7, 122, 123, 124, 125, 9, 38, 39, 40, 41, 42, 43, 44, 45, 46, 47, 48, 49, 50, 51, 52, 53, 54, 55, 56, 57, 58, 59, 60, 61, 62, 63, 64, 65, 66, 67, 68, 69, 70, 71, 72, 73, 74, 75, 76, 77, 78, 79, 80, 82, 83, 84, 85, 86, 87, 88, 89, 90, 91, 92, 93, 94, 95, 96, 97, 98, 99, 100, 101, 126, 127, 128, 129, 1, 29, 30, 31, 32, 130, 131, 132, 133, 134, 135, 136, 137, 138, 139, 140, 141, 142, 143, 144, 145, 146, 147, 148, 149, 150, 151, 152, 153, 154, 155, 156, 157, 158, 159, 160, 161, 162, 163, 164, 165, 166, 167, 168, 169, 170, 171, 172, 173, 174, 175, 176, 177, 178, 179, 180, 181, 182, 183, 184, 185, 186, 187, 188, 189, 190, 191, 192, 193, 194, 195, 196, 197, 198, 199, 200, 201, 202, 203, 204, 205, 206, 207, 208, 209, 210, 211, 212, 213, 214, 215, 216, 217, 218, 219, 220, 221, 222, 223, 224, 225, 226, 227, 228, 229, 230, 231, 232, 233] (by decide +kernel) (by decide +kernel)
set_option maxRecDepth 20000 in
theorem gX13_line_X13_asks : GoodIn wsX13_line (wsV RX13 470 RX13 yX13_asks wsX13_asks) := goodIn_app (goodIn_of _ (by decide +kernel)) ggX13_line_X13_asks
set_option maxRecDepth 20000 in
theorem ggX13_line_X13_tells : GoodIn wsX13_line wsX13_tells := goodIn_r _ [60, 61, 62, 63, 18, 64, 65, 66, 67, 68, 69, 70, 71, 72, 73, 74, 75, 76, 77, 78, 79, 80, 81, 82, 83, 84, 85, 86, 87, 88, 89, 90, 91, 130, 131, 132, 133, 134, 135, 136, 137, 138, 139, 140, 141, 142, 143, 144, 145, 146, 147, 148, 149, 150, 151, 152, 153, 154, 155, 156, 157, 158, 159, 160, 161, 162, 163, 164, 165, 166, 167, 168, 169, 170, 171, 172, 173, 174, 175, 176, 177, 178, 179, 180, 181, 182, 183, 184, 185, 186, 187, 188, 189, 190, 191, 192, 193, 194, 195, 196, 197, 198, 199, 200, 201, 202, 203, 204, 205, 206, 207, 208, 209, 210, 211, 212, 213, 214, 215, 216, 217, 218, 219, 220, 221, 222, 223, 224, 225, 226, 227, 228, 229, 230, 231, 232, 233] (by decide +kernel) (by decide +kernel)
set_option maxRecDepth 20000 in
theorem gX13_line_X13_tells : GoodIn wsX13_line (wsV RX13 404 RX13 yX13_tells wsX13_tells) := goodIn_app (goodIn_of _ (by decide +kernel)) ggX13_line_X13_tells
theorem dX13_line_0 : decode cX13_line 0 = .ok (.aload_n 0, 1) := by decide +kernel
theorem dX13_line_1 : decode cX13_line 1 = .ok (.iload_n 1, 1) := by decide +kernel
theorem dX13_line_2 : decode cX13_line 2 = .ok (.invokevirtual 467, 3) := by decide +kernel
theorem dX13_line_5 : decode cX13_line 5 = .ok (.ifCond .eq 74, 3) := by decide +kernel
theorem dX13_line_8 : decode cX13_line 8 = .ok (.aload_n 0, 1) := by decide +kernel
theorem dX13_line_9 : decode cX13_line 9 = .ok (.getfield 105, 3) := by decide +kernel
theorem dX13_line_12 : decode cX13_line 12 = .ok (.iload_n 1, 1) := by decide +kernel
theorem dX13_line_13 : decode cX13_line 13 = .ok (.iaload, 1) := by decide +kernel
theorem dX13_line_14 : decode cX13_line 14 = .ok (.iconst (-1), 1) := by decide +kernel
theorem dX13_line_15 : decode cX13_line 15 = .ok (.if_icmp .eq 64, 3) := by decide +kernel
theorem dX13_line_18 : decode cX13_line 18 = .ok (.aload_n 0, 1) := by decide +kernel
theorem dX13_line_19 : decode cX13_line 19 = .ok (.getfield 129, 3) := by decide +kernel
theorem dX13_line_22 : decode cX13_line 22 = .ok (.aload_n 0, 1) := by decide +kernel
theorem dX13_line_23 : decode cX13_line 23 = .ok (.getfield 105, 3) := by decide +kernel
theorem dX13_line_26 : decode cX13_line 26 = .ok (.iload_n 1, 1) := by decide +kernel
theorem dX13_line_27 : decode cX13_line 27 = .ok (.iaload, 1) := by decide +kernel
theorem dX13_line_28 : decode cX13_line 28 = .ok (.baload, 1) := by decide +kernel
theorem dX13_line_29 : decode cX13_line 29 = .ok (.ifCond .ne 50, 3) := by decide +kernel
theorem dX13_line_32 : decode cX13_line 32 = .ok (.aload_n 0, 1) := by decide +kernel
theorem dX13_line_33 : decode cX13_line 33 = .ok (.getfield 108, 3) := by decide +kernel
theorem dX13_line_36 : decode cX13_line 36 = .ok (.iload_n 1, 1) := by decide +kernel
theorem dX13_line_37 : decode cX13_line 37 = .ok (.baload, 1) := by decide +kernel
theorem dX13_line_38 : decode cX13_line 38 = .ok (.ifCond .ne 41, 3) := by decide +kernel
theorem dX13_line_41 : decode cX13_line 41 = .ok (.aload_n 0, 1) := by decide +kernel
theorem dX13_line_42 : decode cX13_line 42 = .ok (.iload_n 1, 1) := by decide +kernel
theorem dX13_line_43 : decode cX13_line 43 = .ok (.invokevirtual 458, 3) := by decide +kernel
theorem dX13_line_46 : decode cX13_line 46 = .ok (.ifCond .ne 33, 3) := by decide +kernel
theorem dX13_line_49 : decode cX13_line 49 = .ok (.aload_n 0, 1) := by decide +kernel
theorem dX13_line_50 : decode cX13_line 50 = .ok (.iload_n 1, 1) := by decide +kernel
theorem dX13_line_51 : decode cX13_line 51 = .ok (.invokevirtual 433, 3) := by decide +kernel
theorem dX13_line_54 : decode cX13_line 54 = .ok (.bipush 6, 2) := by decide +kernel
theorem dX13_line_56 : decode cX13_line 56 = .ok (.if_icmp .eq 23, 3) := by decide +kernel
theorem dX13_line_59 : decode cX13_line 59 = .ok (.iload_n 3, 1) := by decide +kernel
theorem dX13_line_60 : decode cX13_line 60 = .ok (.iconst 0, 1) := by decide +kernel
theorem dX13_line_61 : decode cX13_line 61 = .ok (.bipush 30, 2) := by decide +kernel
theorem dX13_line_63 : decode cX13_line 63 = .ok (.invokestatic 256, 3) := by decide +kernel
theorem dX13_line_66 : decode cX13_line 66 = .ok (.ifCond .eq 13, 3) := by decide +kernel
theorem dX13_line_69 : decode cX13_line 69 = .ok (.aload_n 0, 1) := by decide +kernel
theorem dX13_line_70 : decode cX13_line 70 = .ok (.getfield 452, 3) := by decide +kernel
theorem dX13_line_73 : decode cX13_line 73 = .ok (.sipush 300, 3) := by decide +kernel
theorem dX13_line_76 : decode cX13_line 76 = .ok (.if_icmp .ne 5, 3) := by decide +kernel
theorem dX13_line_79 : decode cX13_line 79 = .ok (.iconst (-1), 1) := by decide +kernel
theorem dX13_line_80 : decode cX13_line 80 = .ok (.ireturn, 1) := by decide +kernel
theorem dX13_line_81 : decode cX13_line 81 = .ok (.iload_n 2, 1) := by decide +kernel
theorem dX13_line_82 : decode cX13_line 82 = .ok (.iconst 0, 1) := by decide +kernel
theorem dX13_line_83 : decode cX13_line 83 = .ok (.bipush 39, 2) := by decide +kernel
theorem dX13_line_85 : decode cX13_line 85 = .ok (.invokestatic 256, 3) := by decide +kernel
theorem dX13_line_88 : decode cX13_line 88 = .ok (.ifCond .eq 20, 3) := by decide +kernel
theorem dX13_line_91 : decode cX13_line 91 = .ok (.aload_n 0, 1) := by decide +kernel
theorem dX13_line_92 : decode cX13_line 92 = .ok (.iload_n 2, 1) := by decide +kernel
theorem dX13_line_93 : decode cX13_line 93 = .ok (.aload_n 0, 1) := by decide +kernel
theorem dX13_line_94 : decode cX13_line 94 = .ok (.getfield 383, 3) := by decide +kernel
theorem dX13_line_97 : decode cX13_line 97 = .ok (.invokevirtual 482, 3) := by decide +kernel
theorem dX13_line_100 : decode cX13_line 100 = .ok (.iconst (-1), 1) := by decide +kernel
theorem dX13_line_101 : decode cX13_line 101 = .ok (.if_icmp .eq 7, 3) := by decide +kernel
theorem dX13_line_104 : decode cX13_line 104 = .ok (.iconst 1, 1) := by decide +kernel
theorem dX13_line_105 : decode cX13_line 105 = .ok (.goto 4, 3) := by decide +kernel
theorem dX13_line_108 : decode cX13_line 108 = .ok (.iconst 0, 1) := by decide +kernel
theorem dX13_line_109 : decode cX13_line 109 = .ok (.istore 4, 2) := by decide +kernel
theorem dX13_line_111 : decode cX13_line 111 = .ok (.iload_n 2, 1) := by decide +kernel
theorem dX13_line_112 : decode cX13_line 112 = .ok (.bipush 100, 2) := by decide +kernel
theorem dX13_line_114 : decode cX13_line 114 = .ok (.bipush 99, 2) := by decide +kernel
theorem dX13_line_116 : decode cX13_line 116 = .ok (.aload_n 0, 1) := by decide +kernel
theorem dX13_line_117 : decode cX13_line 117 = .ok (.getfield 452, 3) := by decide +kernel
theorem dX13_line_120 : decode cX13_line 120 = .ok (.iadd, 1) := by decide +kernel
theorem dX13_line_121 : decode cX13_line 121 = .ok (.invokestatic 256, 3) := by decide +kernel
theorem dX13_line_124 : decode cX13_line 124 = .ok (.istore 5, 2) := by decide +kernel
theorem dX13_line_126 : decode cX13_line 126 = .ok (.iload 4, 2) := by decide +kernel
theorem dX13_line_128 : decode cX13_line 128 = .ok (.ifCond .ne 15, 3) := by decide +kernel
theorem dX13_line_131 : decode cX13_line 131 = .ok (.iload 5, 2) := by decide +kernel
theorem dX13_line_133 : decode cX13_line 133 = .ok (.ifCond .ne 10, 3) := by decide +kernel
theorem dX13_line_136 : decode cX13_line 136 = .ok (.iload_n 2, 1) := by decide +kernel
theorem dX13_line_137 : decode cX13_line 137 = .ok (.iconst (-1), 1) := by decide +kernel
theorem dX13_line_138 : decode cX13_line 138 = .ok (.if_icmp .eq 5, 3) := by decide +kernel
theorem dX13_line_141 : decode cX13_line 141 = .ok (.iconst (-1), 1) := by decide +kernel
theorem dX13_line_142 : decode cX13_line 142 = .ok (.ireturn, 1) := by decide +kernel
theorem dX13_line_143 : decode cX13_line 143 = .ok (.aload_n 0, 1) := by decide +kernel
theorem dX13_line_144 : decode cX13_line 144 = .ok (.iload_n 1, 1) := by decide +kernel
theorem dX13_line_145 : decode cX13_line 145 = .ok (.aload_n 0, 1) := by decide +kernel
theorem dX13_line_146 : decode cX13_line 146 = .ok (.getfield 105, 3) := by decide +kernel
theorem dX13_line_149 : decode cX13_line 149 = .ok (.iload_n 1, 1) := by decide +kernel
theorem dX13_line_150 : decode cX13_line 150 = .ok (.iaload, 1) := by decide +kernel
theorem dX13_line_151 : decode cX13_line 151 = .ok (.invokevirtual 470, 3) := by decide +kernel
theorem dX13_line_154 : decode cX13_line 154 = .ok (.aload_n 0, 1) := by decide +kernel
theorem dX13_line_155 : decode cX13_line 155 = .ok (.bipush 11, 2) := by decide +kernel
theorem dX13_line_157 : decode cX13_line 157 = .ok (.aload_n 0, 1) := by decide +kernel
theorem dX13_line_158 : decode cX13_line 158 = .ok (.getfield 93, 3) := by decide +kernel
theorem dX13_line_161 : decode cX13_line 161 = .ok (.iload_n 1, 1) := by decide +kernel
theorem dX13_line_162 : decode cX13_line 162 = .ok (.iaload, 1) := by decide +kernel
theorem dX13_line_163 : decode cX13_line 163 = .ok (.iadd, 1) := by decide +kernel
theorem dX13_line_164 : decode cX13_line 164 = .ok (.aload_n 0, 1) := by decide +kernel
theorem dX13_line_165 : decode cX13_line 165 = .ok (.iload_n 1, 1) := by decide +kernel
theorem dX13_line_166 : decode cX13_line 166 = .ok (.invokevirtual 433, 3) := by decide +kernel
theorem dX13_line_169 : decode cX13_line 169 = .ok (.aload_n 0, 1) := by decide +kernel
theorem dX13_line_170 : decode cX13_line 170 = .ok (.getfield 383, 3) := by decide +kernel
theorem dX13_line_173 : decode cX13_line 173 = .ok (.invokevirtual 404, 3) := by decide +kernel
theorem dX13_line_176 : decode cX13_line 176 = .ok (.istore 6, 2) := by decide +kernel
theorem dX13_line_178 : decode cX13_line 178 = .ok (.aload_n 0, 1) := by decide +kernel
theorem dX13_line_179 : decode cX13_line 179 = .ok (.getfield 135, 3) := by decide +kernel
theorem dX13_line_182 : decode cX13_line 182 = .ok (.aload_n 0, 1) := by decide +kernel
theorem dX13_line_183 : decode cX13_line 183 = .ok (.getfield 452, 3) := by decide +kernel
theorem dX13_line_186 : decode cX13_line 186 = .ok (.iload_n 1, 1) := by decide +kernel
theorem dX13_line_187 : decode cX13_line 187 = .ok (.iastore, 1) := by decide +kernel
theorem dX13_line_188 : decode cX13_line 188 = .ok (.aload_n 0, 1) := by decide +kernel
theorem dX13_line_189 : decode cX13_line 189 = .ok (.getfield 138, 3) := by decide +kernel
theorem dX13_line_192 : decode cX13_line 192 = .ok (.aload_n 0, 1) := by decide +kernel
theorem dX13_line_193 : decode cX13_line 193 = .ok (.getfield 452, 3) := by decide +kernel
theorem dX13_line_196 : decode cX13_line 196 = .ok (.aload_n 0, 1) := by decide +kernel
theorem dX13_line_197 : decode cX13_line 197 = .ok (.getfield 105, 3) := by decide +kernel
theorem dX13_line_200 : decode cX13_line 200 = .ok (.iload_n 1, 1) := by decide +kernel
theorem dX13_line_201 : decode cX13_line 201 = .ok (.iaload, 1) := by decide +kernel
theorem dX13_line_202 : decode cX13_line 202 = .ok (.iastore, 1) := by decide +kernel
theorem dX13_line_203 : decode cX13_line 203 = .ok (.aload_n 0, 1) := by decide +kernel
theorem dX13_line_204 : decode cX13_line 204 = .ok (.getfield 141, 3) := by decide +kernel
theorem dX13_line_207 : decode cX13_line 207 = .ok (.aload_n 0, 1) := by decide +kernel
theorem dX13_line_208 : decode cX13_line 208 = .ok (.getfield 452, 3) := by decide +kernel
theorem dX13_line_211 : decode cX13_line 211 = .ok (.iload 4, 2) := by decide +kernel
theorem dX13_line_213 : decode cX13_line 213 = .ok (.ifCond .eq 7, 3) := by decide +kernel
theorem dX13_line_216 : decode cX13_line 216 = .ok (.iload_n 2, 1) := by decide +kernel
theorem dX13_line_217 : decode cX13_line 217 = .ok (.goto 4, 3) := by decide +kernel
theorem dX13_line_220 : decode cX13_line 220 = .ok (.iconst (-1), 1) := by decide +kernel
theorem dX13_line_221 : decode cX13_line 221 = .ok (.iastore, 1) := by decide +kernel
theorem dX13_line_222 : decode cX13_line 222 = .ok (.aload_n 0, 1) := by decide +kernel
theorem dX13_line_223 : decode cX13_line 223 = .ok (.getfield 144, 3) := by decide +kernel
theorem dX13_line_226 : decode cX13_line 226 = .ok (.aload_n 0, 1) := by decide +kernel
theorem dX13_line_227 : decode cX13_line 227 = .ok (.getfield 452, 3) := by decide +kernel
theorem dX13_line_230 : decode cX13_line 230 = .ok (.iload 5, 2) := by decide +kernel
theorem dX13_line_232 : decode cX13_line 232 = .ok (.ifCond .eq 10, 3) := by decide +kernel
theorem dX13_line_235 : decode cX13_line 235 = .ok (.iload_n 2, 1) := by decide +kernel
theorem dX13_line_236 : decode cX13_line 236 = .ok (.bipush 100, 2) := by decide +kernel
theorem dX13_line_238 : decode cX13_line 238 = .ok (.isub, 1) := by decide +kernel
theorem dX13_line_239 : decode cX13_line 239 = .ok (.goto 4, 3) := by decide +kernel
theorem dX13_line_242 : decode cX13_line 242 = .ok (.iconst (-1), 1) := by decide +kernel
theorem dX13_line_243 : decode cX13_line 243 = .ok (.iastore, 1) := by decide +kernel
theorem dX13_line_244 : decode cX13_line 244 = .ok (.aload_n 0, 1) := by decide +kernel
theorem dX13_line_245 : decode cX13_line 245 = .ok (.getfield 147, 3) := by decide +kernel
theorem dX13_line_248 : decode cX13_line 248 = .ok (.aload_n 0, 1) := by decide +kernel
theorem dX13_line_249 : decode cX13_line 249 = .ok (.getfield 452, 3) := by decide +kernel
theorem dX13_line_252 : decode cX13_line 252 = .ok (.iload 4, 2) := by decide +kernel
theorem dX13_line_254 : decode cX13_line 254 = .ok (.ifCond .eq 15, 3) := by decide +kernel
theorem dX13_line_257 : decode cX13_line 257 = .ok (.aload_n 0, 1) := by decide +kernel
theorem dX13_line_258 : decode cX13_line 258 = .ok (.iload_n 2, 1) := by decide +kernel
theorem dX13_line_259 : decode cX13_line 259 = .ok (.aload_n 0, 1) := by decide +kernel
theorem dX13_line_260 : decode cX13_line 260 = .ok (.getfield 383, 3) := by decide +kernel
theorem dX13_line_263 : decode cX13_line 263 = .ok (.invokevirtual 482, 3) := by decide +kernel
theorem dX13_line_266 : decode cX13_line 266 = .ok (.goto 4, 3) := by decide +kernel
theorem dX13_line_269 : decode cX13_line 269 = .ok (.iconst (-1), 1) := by decide +kernel
theorem dX13_line_270 : decode cX13_line 270 = .ok (.iastore, 1) := by decide +kernel
theorem dX13_line_271 : decode cX13_line 271 = .ok (.aload_n 0, 1) := by decide +kernel
theorem dX13_line_272 : decode cX13_line 272 = .ok (.getfield 150, 3) := by decide +kernel
theorem dX13_line_275 : decode cX13_line 275 = .ok (.aload_n 0, 1) := by decide +kernel
theorem dX13_line_276 : decode cX13_line 276 = .ok (.getfield 452, 3) := by decide +kernel
theorem dX13_line_279 : decode cX13_line 279 = .ok (.iload_n 3, 1) := by decide +kernel
theorem dX13_line_280 : decode cX13_line 280 = .ok (.iastore, 1) := by decide +kernel
theorem dX13_line_281 : decode cX13_line 281 = .ok (.aload_n 0, 1) := by decide +kernel
theorem dX13_line_282 : decode cX13_line 282 = .ok (.getfield 153, 3) := by decide +kernel
theorem dX13_line_285 : decode cX13_line 285 = .ok (.aload_n 0, 1) := by decide +kernel
theorem dX13_line_286 : decode cX13_line 286 = .ok (.getfield 452, 3) := by decide +kernel
theorem dX13_line_289 : decode cX13_line 289 = .ok (.iload 6, 2) := by decide +kernel
theorem dX13_line_291 : decode cX13_line 291 = .ok (.ifCond .ge 7, 3) := by decide +kernel
theorem dX13_line_294 : decode cX13_line 294 = .ok (.iconst 0, 1) := by decide +kernel
theorem dX13_line_295 : decode cX13_line 295 = .ok (.goto 5, 3) := by decide +kernel
theorem dX13_line_298 : decode cX13_line 298 = .ok (.iload 6, 2) := by decide +kernel
theorem dX13_line_300 : decode cX13_line 300 = .ok (.iastore, 1) := by decide +kernel
theorem dX13_line_301 : decode cX13_line 301 = .ok (.aload_n 0, 1) := by decide +kernel
theorem dX13_line_302 : decode cX13_line 302 = .ok (.getfield 156, 3) := by decide +kernel
theorem dX13_line_305 : decode cX13_line 305 = .ok (.aload_n 0, 1) := by decide +kernel
theorem dX13_line_306 : decode cX13_line 306 = .ok (.getfield 452, 3) := by decide +kernel
theorem dX13_line_309 : decode cX13_line 309 = .ok (.iconst (-1), 1) := by decide +kernel
theorem dX13_line_310 : decode cX13_line 310 = .ok (.iastore, 1) := by decide +kernel
theorem dX13_line_311 : decode cX13_line 311 = .ok (.aload_n 0, 1) := by decide +kernel
theorem dX13_line_312 : decode cX13_line 312 = .ok (.dup, 1) := by decide +kernel
theorem dX13_line_313 : decode cX13_line 313 = .ok (.getfield 452, 3) := by decide +kernel
theorem dX13_line_316 : decode cX13_line 316 = .ok (.iconst 1, 1) := by decide +kernel
theorem dX13_line_317 : decode cX13_line 317 = .ok (.iadd, 1) := by decide +kernel
theorem dX13_line_318 : decode cX13_line 318 = .ok (.putfield 452, 3) := by decide +kernel
theorem dX13_line_321 : decode cX13_line 321 = .ok (.aload_n 0, 1) := by decide +kernel
theorem dX13_line_322 : decode cX13_line 322 = .ok (.getfield 452, 3) := by decide +kernel
theorem dX13_line_325 : decode cX13_line 325 = .ok (.iconst 1, 1) := by decide +kernel
theorem dX13_line_326 : decode cX13_line 326 = .ok (.isub, 1) := by decide +kernel
theorem dX13_line_327 : decode cX13_line 327 = .ok (.ireturn, 1) := by decide +kernel
set_option maxRecDepth 20000 in
theorem ggX13_hangs_X13_isDone : GoodIn wsX13_hangs wsX13_isDone := goodIn_r _ [9, 1, 10, 11, 12, 13, 8, 14, 15, 16, 17, 18, 19, 20, 21, 22, 23, 24, 25, 26, 27, 28, 29, 30, 31, 32, 33, 34, 35, 36, 37, 38, 39, 40, 41, 42, 43, 44, 45, 46, 47, 48, 49, 50, 51, 52, 53, 54, 55, 56, 57, 58, 59, 60, 61, 62, 63, 64, 65, 66, 67, 68, 69, 70, 71, 72, 73, 74, 75, 76, 77, 78, 79, 80, 81, 82, 83, 84, 85, 86, 87, 88, 89, 90, 91, 92, 93, 94, 95, 96, 97, 98, 99, 100, 101, 102, 103, 104, 105, 106, 107, 108, 109, 110, 111, 112, 113, 114, 115, 116, 117, 118, 119, 120] (by decide +kernel) (by decide +kernel)
set_option maxRecDepth 20000 in
theorem gX13_hangs_X13_isDone : GoodIn wsX13_hangs (wsV RX13 458 RX13 yX13_isDone wsX13_isDone) := goodIn_app (goodIn_of _ (by decide +kernel)) ggX13_hangs_X13_isDone
theorem dX13_hangs_0 : decode cX13_hangs 0 = .ok (.aload_n 0, 1) := by decide +kernel
theorem dX13_hangs_1 : decode cX13_hangs 1 = .ok (.getfield 90, 3) := by decide +kernel
theorem dX13_hangs_4 : decode cX13_hangs 4 = .ok (.iload_n 1, 1) := by decide +kernel
theorem dX13_hangs_5 : decode cX13_hangs 5 = .ok (.iaload, 1) := by decide +kernel
theorem dX13_hangs_6 : decode cX13_hangs 6 = .ok (.ifCond .ne 48, 3) := by decide +kernel
theorem dX13_hangs_9 : decode cX13_hangs 9 = .ok (.aload_n 0, 1) := by decide +kernel
theorem dX13_hangs_10 : decode cX13_hangs 10 = .ok (.getfield 105, 3) := by decide +kernel
theorem dX13_hangs_13 : decode cX13_hangs 13 = .ok (.iload_n 1, 1) := by decide +kernel
theorem dX13_hangs_14 : decode cX13_hangs 14 = .ok (.iaload, 1) := by decide +kernel
theorem dX13_hangs_15 : decode cX13_hangs 15 = .ok (.iconst (-1), 1) := by decide +kernel
theorem dX13_hangs_16 : decode cX13_hangs 16 = .ok (.if_icmp .eq 38, 3) := by decide +kernel
theorem dX13_hangs_19 : decode cX13_hangs 19 = .ok (.aload_n 0, 1) := by decide +kernel
theorem dX13_hangs_20 : decode cX13_hangs 20 = .ok (.getfield 129, 3) := by decide +kernel
theorem dX13_hangs_23 : decode cX13_hangs 23 = .ok (.aload_n 0, 1) := by decide +kernel
theorem dX13_hangs_24 : decode cX13_hangs 24 = .ok (.getfield 105, 3) := by decide +kernel
theorem dX13_hangs_27 : decode cX13_hangs 27 = .ok (.iload_n 1, 1) := by decide +kernel
theorem dX13_hangs_28 : decode cX13_hangs 28 = .ok (.iaload, 1) := by decide +kernel
theorem dX13_hangs_29 : decode cX13_hangs 29 = .ok (.baload, 1) := by decide +kernel
theorem dX13_hangs_30 : decode cX13_hangs 30 = .ok (.ifCond .eq 24, 3) := by decide +kernel
theorem dX13_hangs_33 : decode cX13_hangs 33 = .ok (.aload_n 0, 1) := by decide +kernel
theorem dX13_hangs_34 : decode cX13_hangs 34 = .ok (.getfield 108, 3) := by decide +kernel
theorem dX13_hangs_37 : decode cX13_hangs 37 = .ok (.iload_n 1, 1) := by decide +kernel
theorem dX13_hangs_38 : decode cX13_hangs 38 = .ok (.baload, 1) := by decide +kernel
theorem dX13_hangs_39 : decode cX13_hangs 39 = .ok (.ifCond .ne 15, 3) := by decide +kernel
theorem dX13_hangs_42 : decode cX13_hangs 42 = .ok (.aload_n 0, 1) := by decide +kernel
theorem dX13_hangs_43 : decode cX13_hangs 43 = .ok (.iload_n 1, 1) := by decide +kernel
theorem dX13_hangs_44 : decode cX13_hangs 44 = .ok (.invokevirtual 458, 3) := by decide +kernel
theorem dX13_hangs_47 : decode cX13_hangs 47 = .ok (.ifCond .ne 7, 3) := by decide +kernel
theorem dX13_hangs_50 : decode cX13_hangs 50 = .ok (.iconst 1, 1) := by decide +kernel
theorem dX13_hangs_51 : decode cX13_hangs 51 = .ok (.goto 4, 3) := by decide +kernel
theorem dX13_hangs_54 : decode cX13_hangs 54 = .ok (.iconst 0, 1) := by decide +kernel
theorem dX13_hangs_55 : decode cX13_hangs 55 = .ok (.ireturn, 1) := by decide +kernel
set_option maxRecDepth 20000 in
theorem ggX13_die_X13_isHand : GoodIn wsX13_die wsX13_isHand := goodIn_r _ [8, 9, 10, 11, 7, 12, 30, 31, 32, 33, 34, 35, 36, 37, 38, 39, 40, 41, 42, 43, 44, 45, 46, 47, 48, 49, 50, 51, 52, 53, 54, 55, 56, 57, 58, 59, 60, 61, 62, 63, 64, 65, 66, 67, 68, 69, 70, 71, 72, 73, 74, 75, 76, 77, 78, 79, 80, 81, 82, 83, 84, 85, 86, 87, 88, 89, 90, 91, 92, 93, 94, 95, 96, 97, 98, 99, 100, 101, 102, 103, 104, 105, 106, 107, 108, 109, 110, 111, 112, 113, 114, 115, 116, 117, 118, 119, 120, 121, 122, 123, 124, 125, 126, 127, 128, 129, 130, 131, 132, 133] (by decide +kernel) (by decide +kernel)
set_option maxRecDepth 20000 in
theorem gX13_die_X13_isHand : GoodIn wsX13_die (wsV RX13 449 RX13 yX13_isHand wsX13_isHand) := goodIn_app (goodIn_of _ (by decide +kernel)) ggX13_die_X13_isHand
set_option maxRecDepth 20000 in
theorem ggX13_die_X13_hangs : GoodIn wsX13_die wsX13_hangs := goodIn_r _ [16, 17, 3, 1, 18, 19, 20, 21, 7, 22, 23, 24, 25, 26, 27, 28, 29, 30, 31, 32, 33, 34, 35, 36, 37, 38, 39, 40, 41, 42, 43, 44, 45, 46, 47, 48, 49, 50, 51, 52, 53, 54, 55, 56, 57, 58, 59, 60, 61, 62, 63, 64, 65, 66, 67, 68, 69, 70, 71, 72, 73, 74, 75, 76, 77, 78, 79, 80, 81, 82, 83, 84, 85, 86, 87, 88, 89, 90, 91, 92, 93, 94, 95, 96, 97, 98, 99, 100, 101, 102, 103, 104, 105, 106, 107, 108, 109, 110, 111, 112, 113, 114, 115, 116, 117, 118, 119, 120, 121, 122, 123, 124, 125, 126, 127, 128, 129, 130, 131, 132, 133] (by decide +kernel) (by decide +kernel)
set_option maxRecDepth 20000 in
theorem gX13_die_X13_hangs : GoodIn wsX13_die (wsV RX13 485 RX13 yX13_hangs wsX13_hangs) := goodIn_app (goodIn_of _ (by decide +kernel)) ggX13_die_X13_hangs
theorem dX13_die_0 : decode cX13_die 0 = .ok (.aload_n 0, 1) := by decide +kernel
theorem dX13_die_1 : decode cX13_die 1 = .ok (.iload_n 1, 1) := by decide +kernel
theorem dX13_die_2 : decode cX13_die 2 = .ok (.invokevirtual 449, 3) := by decide +kernel
theorem dX13_die_5 : decode cX13_die 5 = .ok (.ifCond .eq 12, 3) := by decide +kernel
theorem dX13_die_8 : decode cX13_die 8 = .ok (.aload_n 0, 1) := by decide +kernel
theorem dX13_die_9 : decode cX13_die 9 = .ok (.getfield 129, 3) := by decide +kernel
theorem dX13_die_12 : decode cX13_die 12 = .ok (.iload_n 1, 1) := by decide +kernel
theorem dX13_die_13 : decode cX13_die 13 = .ok (.baload, 1) := by decide +kernel
theorem dX13_die_14 : decode cX13_die 14 = .ok (.ifCond .eq 5, 3) := by decide +kernel
theorem dX13_die_17 : decode cX13_die 17 = .ok (.iconst (-1), 1) := by decide +kernel
theorem dX13_die_18 : decode cX13_die 18 = .ok (.ireturn, 1) := by decide +kernel
theorem dX13_die_19 : decode cX13_die 19 = .ok (.aload_n 0, 1) := by decide +kernel
theorem dX13_die_20 : decode cX13_die 20 = .ok (.getfield 129, 3) := by decide +kernel
theorem dX13_die_23 : decode cX13_die 23 = .ok (.iload_n 1, 1) := by decide +kernel
theorem dX13_die_24 : decode cX13_die 24 = .ok (.iconst 1, 1) := by decide +kernel
theorem dX13_die_25 : decode cX13_die 25 = .ok (.bastore, 1) := by decide +kernel
theorem dX13_die_26 : decode cX13_die 26 = .ok (.iconst 0, 1) := by decide +kernel
theorem dX13_die_27 : decode cX13_die 27 = .ok (.istore_n 2, 1) := by decide +kernel
theorem dX13_die_28 : decode cX13_die 28 = .ok (.iconst 0, 1) := by decide +kernel
theorem dX13_die_29 : decode cX13_die 29 = .ok (.istore_n 3, 1) := by decide +kernel
theorem dX13_die_30 : decode cX13_die 30 = .ok (.iload_n 3, 1) := by decide +kernel
theorem dX13_die_31 : decode cX13_die 31 = .ok (.aload_n 0, 1) := by decide +kernel
theorem dX13_die_32 : decode cX13_die 32 = .ok (.getfield 418, 3) := by decide +kernel
theorem dX13_die_35 : decode cX13_die 35 = .ok (.if_icmp .ge 35, 3) := by decide +kernel
theorem dX13_die_38 : decode cX13_die 38 = .ok (.iload_n 2, 1) := by decide +kernel
theorem dX13_die_39 : decode cX13_die 39 = .ok (.aload_n 0, 1) := by decide +kernel
theorem dX13_die_40 : decode cX13_die 40 = .ok (.iload_n 3, 1) := by decide +kernel
theorem dX13_die_41 : decode cX13_die 41 = .ok (.invokevirtual 485, 3) := by decide +kernel
theorem dX13_die_44 : decode cX13_die 44 = .ok (.ifCond .eq 17, 3) := by decide +kernel
theorem dX13_die_47 : decode cX13_die 47 = .ok (.aload_n 0, 1) := by decide +kernel
theorem dX13_die_48 : decode cX13_die 48 = .ok (.getfield 105, 3) := by decide +kernel
theorem dX13_die_51 : decode cX13_die 51 = .ok (.iload_n 3, 1) := by decide +kernel
theorem dX13_die_52 : decode cX13_die 52 = .ok (.iaload, 1) := by decide +kernel
theorem dX13_die_53 : decode cX13_die 53 = .ok (.iload_n 1, 1) := by decide +kernel
theorem dX13_die_54 : decode cX13_die 54 = .ok (.if_icmp .ne 7, 3) := by decide +kernel
theorem dX13_die_57 : decode cX13_die 57 = .ok (.iconst 1, 1) := by decide +kernel
theorem dX13_die_58 : decode cX13_die 58 = .ok (.goto 4, 3) := by decide +kernel
theorem dX13_die_61 : decode cX13_die 61 = .ok (.iconst 0, 1) := by decide +kernel
theorem dX13_die_62 : decode cX13_die 62 = .ok (.iadd, 1) := by decide +kernel
theorem dX13_die_63 : decode cX13_die 63 = .ok (.istore_n 2, 1) := by decide +kernel
theorem dX13_die_64 : decode cX13_die 64 = .ok (.iinc 3 1, 3) := by decide +kernel
theorem dX13_die_67 : decode cX13_die 67 = .ok (.goto (-37), 3) := by decide +kernel
theorem dX13_die_70 : decode cX13_die 70 = .ok (.iload_n 2, 1) := by decide +kernel
theorem dX13_die_71 : decode cX13_die 71 = .ok (.ireturn, 1) := by decide +kernel
set_option maxRecDepth 20000 in
theorem ggX13_takers_X13_isEntry : GoodIn wsX13_takers wsX13_isEntry := goodIn_r _ [6, 7, 8, 9, 5, 10, 127, 128, 129, 130, 131, 132, 133, 134, 135, 136, 137, 138, 139, 140, 141, 142, 143, 144, 145, 146, 147, 148, 149, 150, 151, 152, 153, 154, 155, 156, 157, 158, 159, 160, 161, 162, 163, 164, 165, 166, 167, 168, 169, 170, 171, 172, 173, 174, 175, 176, 177, 178, 179, 180, 181, 182, 183, 184, 185, 186, 187, 188, 189, 190, 191, 192, 193, 194, 195, 196, 197, 198, 199, 200, 201, 202, 203, 204, 205, 206, 207, 208, 209, 210, 211, 212, 213, 214, 215, 216, 217, 218, 219, 220, 221, 222, 223, 224, 225, 226, 227, 228, 229, 230] (by decide +kernel) (by decide +kernel)
set_option maxRecDepth 20000 in
theorem gX13_takers_X13_isEntry : GoodIn wsX13_takers (wsV RX13 421 RX13 yX13_isEntry wsX13_isEntry) := goodIn_app (goodIn_of _ (by decide +kernel)) ggX13_takers_X13_isEntry
set_option maxRecDepth 20000 in
theorem ggX13_takers_X13_hangs : GoodIn wsX13_takers wsX13_hangs := goodIn_r _ [14, 15, 16, 17, 18, 19, 20, 21, 5, 22, 23, 24, 25, 26, 27, 28, 29, 127, 128, 129, 130, 131, 132, 133, 134, 135, 136, 137, 138, 139, 140, 141, 142, 143, 144, 145, 146, 147, 148, 149, 150, 151, 152, 153, 154, 155, 156, 157, 158, 159, 160, 161, 162, 163, 164, 165, 166, 167, 168, 169, 170, 171, 172, 173, 174, 175, 176, 177, 178, 179, 180, 181, 182, 183, 184, 185, 186, 187, 188, 189, 190, 191, 192, 193, 194, 195, 196, 197, 198, 199, 200, 201, 202, 203, 204, 205, 206, 207, 208, 209, 210, 211, 212, 213, 214, 215, 216, 217, 218, 219, 220, 221, 222, 223, 224, 225, 226, 227, 228, 229, 230] (by decide +kernel) (by decide +kernel)
set_option maxRecDepth 20000 in
theorem gX13_takers_X13_hangs : GoodIn wsX13_takers (wsV RX13 485 RX13 yX13_hangs wsX13_hangs) := goodIn_app (goodIn_of _ (by decide +kernel)) ggX13_takers_X13_hangs
set_option maxRecDepth 20000 in
theorem ggX13_takers_X13_mayBeGiven : GoodIn wsX13_takers wsX13_mayBeGiven := goodIn_r _ [33, 18, 34, 17, 35, 36, 28, 29, 37, 38, 39, 40, 41, 42, 5, 43, 15, 2, 3, 4, 6, 7, 8, 9, 10, 19, 20, 21, 22, 23, 24, 25, 26, 27, 44, 45, 46, 47, 1, 48, 49, 50, 51, 52, 53, 54, 55, 56, 57, 58, 59, 60, 61, 62, 63, 64, 65, 66, 67, 68, 69, 70, 71, 72, 73, 74, 75, 76, 77, 78, 79, 80, 81, 82, 83, 84, 85, 86, 87, 88, 89, 90, 91, 92, 93, 94, 95, 96, 97, 98, 99, 100, 101, 102, 103, 104, 105, 106, 107, 108, 109, 110, 111, 112, 113, 114, 115, 116, 117, 118, 119, 120, 121, 122, 123, 124, 125, 126, 16, 127, 128, 129, 130, 131, 132, 133, 134, 135, 136, 137, 138, 139, 140, 141, 142, 143, 144, 145, 146, 147, 148, 149, 150, 151, 152, 153, 154, 155, 156, 157, 158, 159, 160, 161, 162, 163, 164, 165, 166, 167, 168, 169, 170, 171, 172, 173, 174, 175, 176, 177, 178, 179, 180, 181, 182, 183, 184, 185, 186, 187, 188, 189, 190, 191, 192, 193, 194, 195, 196, 197, 198, 199, 200, 201, 202, 203, 204, 205, 206, 207, 208, 209, 210, 211, 212, 213, 214, 215, 216, 217, 218, 219, 220, 221, 222, 223, 224, 225, 226, 227, 228, 229, 230] (by decide +kernel) (by decide +kernel)
set_option maxRecDepth 20000 in
theorem gX13_takers_X13_mayBeGiven : GoodIn wsX13_takers (wsV RX13 473 RX13 yX13_mayBeGiven wsX13_mayBeGiven) := goodIn_app (goodIn_of _ (by decide +kernel)) ggX13_takers_X13_mayBeGiven
theorem dX13_takers_0 : decode cX13_takers 0 = .ok (.aload_n 0, 1) := by decide +kernel
theorem dX13_takers_1 : decode cX13_takers 1 = .ok (.iload_n 1, 1) := by decide +kernel
theorem dX13_takers_2 : decode cX13_takers 2 = .ok (.invokevirtual 421, 3) := by decide +kernel
theorem dX13_takers_5 : decode cX13_takers 5 = .ok (.ifCond .eq 11, 3) := by decide +kernel
theorem dX13_takers_8 : decode cX13_takers 8 = .ok (.aload_n 0, 1) := by decide +kernel
theorem dX13_takers_9 : decode cX13_takers 9 = .ok (.iload_n 1, 1) := by decide +kernel
theorem dX13_takers_10 : decode cX13_takers 10 = .ok (.invokevirtual 485, 3) := by decide +kernel
theorem dX13_takers_13 : decode cX13_takers 13 = .ok (.ifCond .ne 5, 3) := by decide +kernel
theorem dX13_takers_16 : decode cX13_takers 16 = .ok (.iconst (-1), 1) := by decide +kernel
theorem dX13_takers_17 : decode cX13_takers 17 = .ok (.ireturn, 1) := by decide +kernel
theorem dX13_takers_18 : decode cX13_takers 18 = .ok (.iconst 0, 1) := by decide +kernel
theorem dX13_takers_19 : decode cX13_takers 19 = .ok (.istore_n 2, 1) := by decide +kernel
theorem dX13_takers_20 : decode cX13_takers 20 = .ok (.iconst 0, 1) := by decide +kernel
theorem dX13_takers_21 : decode cX13_takers 21 = .ok (.istore_n 3, 1) := by decide +kernel
theorem dX13_takers_22 : decode cX13_takers 22 = .ok (.iload_n 3, 1) := by decide +kernel
theorem dX13_takers_23 : decode cX13_takers 23 = .ok (.aload_n 0, 1) := by decide +kernel
theorem dX13_takers_24 : decode cX13_takers 24 = .ok (.getfield 445, 3) := by decide +kernel
theorem dX13_takers_27 : decode cX13_takers 27 = .ok (.if_icmp .ge 28, 3) := by decide +kernel
theorem dX13_takers_30 : decode cX13_takers 30 = .ok (.iload_n 2, 1) := by decide +kernel
theorem dX13_takers_31 : decode cX13_takers 31 = .ok (.aload_n 0, 1) := by decide +kernel
theorem dX13_takers_32 : decode cX13_takers 32 = .ok (.iload_n 1, 1) := by decide +kernel
theorem dX13_takers_33 : decode cX13_takers 33 = .ok (.iload_n 3, 1) := by decide +kernel
theorem dX13_takers_34 : decode cX13_takers 34 = .ok (.invokevirtual 473, 3) := by decide +kernel
theorem dX13_takers_37 : decode cX13_takers 37 = .ok (.ifCond .eq 9, 3) := by decide +kernel
theorem dX13_takers_40 : decode cX13_takers 40 = .ok (.iconst 1, 1) := by decide +kernel
theorem dX13_takers_41 : decode cX13_takers 41 = .ok (.iload_n 3, 1) := by decide +kernel
theorem dX13_takers_42 : decode cX13_takers 42 = .ok (.ishl, 1) := by decide +kernel
theorem dX13_takers_43 : decode cX13_takers 43 = .ok (.goto 4, 3) := by decide +kernel
theorem dX13_takers_46 : decode cX13_takers 46 = .ok (.iconst 0, 1) := by decide +kernel
theorem dX13_takers_47 : decode cX13_takers 47 = .ok (.ior, 1) := by decide +kernel
theorem dX13_takers_48 : decode cX13_takers 48 = .ok (.istore_n 2, 1) := by decide +kernel
theorem dX13_takers_49 : decode cX13_takers 49 = .ok (.iinc 3 1, 3) := by decide +kernel
theorem dX13_takers_52 : decode cX13_takers 52 = .ok (.goto (-30), 3) := by decide +kernel
theorem dX13_takers_55 : decode cX13_takers 55 = .ok (.iload_n 2, 1) := by decide +kernel
theorem dX13_takers_56 : decode cX13_takers 56 = .ok (.ireturn, 1) := by decide +kernel
set_option maxRecDepth 20000 in
theorem ggX13_tell_X13_in : GoodIn wsX13_tell wsX13_in := goodIn_r _ [10] (by decide +kernel) (by decide +kernel)
set_option maxRecDepth 20000 in
theorem gX13_tell_X13_in : GoodIn wsX13_tell (va_wsS RX13 256 yX13_in wsX13_in) := goodIn_app (goodIn_of _ (by decide +kernel)) ggX13_tell_X13_in
theorem dX13_tell_0 : decode cX13_tell 0 = .ok (.iload_n 1, 1) := by decide +kernel
theorem dX13_tell_1 : decode cX13_tell 1 = .ok (.iconst 0, 1) := by decide +kernel
theorem dX13_tell_2 : decode cX13_tell 2 = .ok (.bipush 39, 2) := by decide +kernel
theorem dX13_tell_4 : decode cX13_tell 4 = .ok (.invokestatic 256, 3) := by decide +kernel
theorem dX13_tell_7 : decode cX13_tell 7 = .ok (.ifCond .eq 28, 3) := by decide +kernel
theorem dX13_tell_10 : decode cX13_tell 10 = .ok (.iload_n 2, 1) := by decide +kernel
theorem dX13_tell_11 : decode cX13_tell 11 = .ok (.iconst 0, 1) := by decide +kernel
theorem dX13_tell_12 : decode cX13_tell 12 = .ok (.sipush 999, 3) := by decide +kernel
theorem dX13_tell_15 : decode cX13_tell 15 = .ok (.invokestatic 256, 3) := by decide +kernel
theorem dX13_tell_18 : decode cX13_tell 18 = .ok (.ifCond .eq 17, 3) := by decide +kernel
theorem dX13_tell_21 : decode cX13_tell 21 = .ok (.iload_n 3, 1) := by decide +kernel
theorem dX13_tell_22 : decode cX13_tell 22 = .ok (.ifCond .lt 13, 3) := by decide +kernel
theorem dX13_tell_25 : decode cX13_tell 25 = .ok (.aload_n 0, 1) := by decide +kernel
theorem dX13_tell_26 : decode cX13_tell 26 = .ok (.getfield 476, 3) := by decide +kernel
theorem dX13_tell_29 : decode cX13_tell 29 = .ok (.sipush 600, 3) := by decide +kernel
theorem dX13_tell_32 : decode cX13_tell 32 = .ok (.if_icmp .ne 5, 3) := by decide +kernel
theorem dX13_tell_35 : decode cX13_tell 35 = .ok (.iconst 0, 1) := by decide +kernel
theorem dX13_tell_36 : decode cX13_tell 36 = .ok (.ireturn, 1) := by decide +kernel
theorem dX13_tell_37 : decode cX13_tell 37 = .ok (.aload_n 0, 1) := by decide +kernel
theorem dX13_tell_38 : decode cX13_tell 38 = .ok (.getfield 162, 3) := by decide +kernel
theorem dX13_tell_41 : decode cX13_tell 41 = .ok (.aload_n 0, 1) := by decide +kernel
theorem dX13_tell_42 : decode cX13_tell 42 = .ok (.getfield 476, 3) := by decide +kernel
theorem dX13_tell_45 : decode cX13_tell 45 = .ok (.iload_n 1, 1) := by decide +kernel
theorem dX13_tell_46 : decode cX13_tell 46 = .ok (.iastore, 1) := by decide +kernel
theorem dX13_tell_47 : decode cX13_tell 47 = .ok (.aload_n 0, 1) := by decide +kernel
theorem dX13_tell_48 : decode cX13_tell 48 = .ok (.getfield 165, 3) := by decide +kernel
theorem dX13_tell_51 : decode cX13_tell 51 = .ok (.aload_n 0, 1) := by decide +kernel
theorem dX13_tell_52 : decode cX13_tell 52 = .ok (.getfield 476, 3) := by decide +kernel
theorem dX13_tell_55 : decode cX13_tell 55 = .ok (.iload_n 2, 1) := by decide +kernel
theorem dX13_tell_56 : decode cX13_tell 56 = .ok (.iastore, 1) := by decide +kernel
theorem dX13_tell_57 : decode cX13_tell 57 = .ok (.aload_n 0, 1) := by decide +kernel
theorem dX13_tell_58 : decode cX13_tell 58 = .ok (.getfield 168, 3) := by decide +kernel
theorem dX13_tell_61 : decode cX13_tell 61 = .ok (.aload_n 0, 1) := by decide +kernel
theorem dX13_tell_62 : decode cX13_tell 62 = .ok (.getfield 476, 3) := by decide +kernel
theorem dX13_tell_65 : decode cX13_tell 65 = .ok (.iload_n 3, 1) := by decide +kernel
theorem dX13_tell_66 : decode cX13_tell 66 = .ok (.iastore, 1) := by decide +kernel
theorem dX13_tell_67 : decode cX13_tell 67 = .ok (.aload_n 0, 1) := by decide +kernel
theorem dX13_tell_68 : decode cX13_tell 68 = .ok (.getfield 171, 3) := by decide +kernel
theorem dX13_tell_71 : decode cX13_tell 71 = .ok (.aload_n 0, 1) := by decide +kernel
theorem dX13_tell_72 : decode cX13_tell 72 = .ok (.getfield 476, 3) := by decide +kernel
theorem dX13_tell_75 : decode cX13_tell 75 = .ok (.aload_n 0, 1) := by decide +kernel
theorem dX13_tell_76 : decode cX13_tell 76 = .ok (.getfield 383, 3) := by decide +kernel
theorem dX13_tell_79 : decode cX13_tell 79 = .ok (.iastore, 1) := by decide +kernel
theorem dX13_tell_80 : decode cX13_tell 80 = .ok (.aload_n 0, 1) := by decide +kernel
theorem dX13_tell_81 : decode cX13_tell 81 = .ok (.dup, 1) := by decide +kernel
theorem dX13_tell_82 : decode cX13_tell 82 = .ok (.getfield 476, 3) := by decide +kernel
theorem dX13_tell_85 : decode cX13_tell 85 = .ok (.iconst 1, 1) := by decide +kernel
theorem dX13_tell_86 : decode cX13_tell 86 = .ok (.iadd, 1) := by decide +kernel
theorem dX13_tell_87 : decode cX13_tell 87 = .ok (.putfield 476, 3) := by decide +kernel
theorem dX13_tell_90 : decode cX13_tell 90 = .ok (.iconst 1, 1) := by decide +kernel
theorem dX13_tell_91 : decode cX13_tell 91 = .ok (.ireturn, 1) := by decide +kernel
set_option maxRecDepth 20000 in
theorem ggX13_known_X13_in : GoodIn wsX13_known wsX13_in := goodIn_r _ [6] (by decide +kernel) (by decide +kernel)
set_option maxRecDepth 20000 in
theorem gX13_known_X13_in : GoodIn wsX13_known (va_wsS RX13 256 yX13_in wsX13_in) := goodIn_app (goodIn_of _ (by decide +kernel)) ggX13_known_X13_in
set_option maxRecDepth 20000 in
theorem ggX13_known_X13_knownOf : GoodIn wsX13_known wsX13_knownOf := goodIn_r _ [10, 11, 12, 13, 14, 15, 16, 17, 18, 19, 20, 21, 22, 23, 24, 25, 26, 27, 28, 29, 30, 31, 32, 33, 34, 35, 36, 37, 38, 39, 40, 41, 42, 43, 44, 45, 46, 47, 48, 49, 50, 51, 52, 53, 54, 55, 56, 57, 58, 59, 60, 61, 62, 63, 64, 65, 66, 67, 68, 69, 70, 71, 72, 73, 74, 75, 76, 77, 78, 79, 80, 81, 82, 83, 84, 85, 86, 87, 88, 89, 90, 91, 92, 93, 94, 95, 96, 97, 98, 99, 100, 101, 102, 103, 104, 105, 106, 107, 108, 109, 110, 111, 112, 113, 114, 115, 116, 117] (by decide +kernel) (by decide +kernel)
set_option maxRecDepth 20000 in
theorem gX13_known_X13_knownOf : GoodIn wsX13_known (wsV RX13 479 RX13 yX13_knownOf wsX13_knownOf) := goodIn_app (goodIn_of _ (by decide +kernel)) ggX13_known_X13_knownOf
theorem dX13_known_0 : decode cX13_known 0 = .ok (.iload_n 1, 1) := by decide +kernel
theorem dX13_known_1 : decode cX13_known 1 = .ok (.iconst 0, 1) := by decide +kernel
theorem dX13_known_2 : decode cX13_known 2 = .ok (.bipush 39, 2) := by decide +kernel
theorem dX13_known_4 : decode cX13_known 4 = .ok (.invokestatic 256, 3) := by decide +kernel
theorem dX13_known_7 : decode cX13_known 7 = .ok (.ifCond .eq 23, 3) := by decide +kernel
theorem dX13_known_10 : decode cX13_known 10 = .ok (.iload_n 2, 1) := by decide +kernel
theorem dX13_known_11 : decode cX13_known 11 = .ok (.iconst 0, 1) := by decide +kernel
theorem dX13_known_12 : decode cX13_known 12 = .ok (.sipush 2000, 3) := by decide +kernel
theorem dX13_known_15 : decode cX13_known 15 = .ok (.invokestatic 256, 3) := by decide +kernel
theorem dX13_known_18 : decode cX13_known 18 = .ok (.ifCond .eq 12, 3) := by decide +kernel
theorem dX13_known_21 : decode cX13_known 21 = .ok (.iload_n 3, 1) := by decide +kernel
theorem dX13_known_22 : decode cX13_known 22 = .ok (.iconst 0, 1) := by decide +kernel
theorem dX13_known_23 : decode cX13_known 23 = .ok (.iconst 1, 1) := by decide +kernel
theorem dX13_known_24 : decode cX13_known 24 = .ok (.invokestatic 256, 3) := by decide +kernel
theorem dX13_known_27 : decode cX13_known 27 = .ok (.ifCond .ne 5, 3) := by decide +kernel
theorem dX13_known_30 : decode cX13_known 30 = .ok (.iconst (-1), 1) := by decide +kernel
theorem dX13_known_31 : decode cX13_known 31 = .ok (.ireturn, 1) := by decide +kernel
theorem dX13_known_32 : decode cX13_known 32 = .ok (.aload_n 0, 1) := by decide +kernel
theorem dX13_known_33 : decode cX13_known 33 = .ok (.iload_n 1, 1) := by decide +kernel
theorem dX13_known_34 : decode cX13_known 34 = .ok (.iload_n 2, 1) := by decide +kernel
theorem dX13_known_35 : decode cX13_known 35 = .ok (.invokevirtual 479, 3) := by decide +kernel
theorem dX13_known_38 : decode cX13_known 38 = .ok (.istore 4, 2) := by decide +kernel
theorem dX13_known_40 : decode cX13_known 40 = .ok (.iload 4, 2) := by decide +kernel
theorem dX13_known_42 : decode cX13_known 42 = .ok (.iconst (-1), 1) := by decide +kernel
theorem dX13_known_43 : decode cX13_known 43 = .ok (.if_icmp .ne 7, 3) := by decide +kernel
theorem dX13_known_46 : decode cX13_known 46 = .ok (.iconst (-1), 1) := by decide +kernel
theorem dX13_known_47 : decode cX13_known 47 = .ok (.goto 24, 3) := by decide +kernel
theorem dX13_known_50 : decode cX13_known 50 = .ok (.iload_n 3, 1) := by decide +kernel
theorem dX13_known_51 : decode cX13_known 51 = .ok (.ifCond .ne 13, 3) := by decide +kernel
theorem dX13_known_54 : decode cX13_known 54 = .ok (.aload_n 0, 1) := by decide +kernel
theorem dX13_known_55 : decode cX13_known 55 = .ok (.getfield 165, 3) := by decide +kernel
theorem dX13_known_58 : decode cX13_known 58 = .ok (.iload 4, 2) := by decide +kernel
theorem dX13_known_60 : decode cX13_known 60 = .ok (.iaload, 1) := by decide +kernel
theorem dX13_known_61 : decode cX13_known 61 = .ok (.goto 10, 3) := by decide +kernel
theorem dX13_known_64 : decode cX13_known 64 = .ok (.aload_n 0, 1) := by decide +kernel
theorem dX13_known_65 : decode cX13_known 65 = .ok (.getfield 168, 3) := by decide +kernel
theorem dX13_known_68 : decode cX13_known 68 = .ok (.iload 4, 2) := by decide +kernel
theorem dX13_known_70 : decode cX13_known 70 = .ok (.iaload, 1) := by decide +kernel
theorem dX13_known_71 : decode cX13_known 71 = .ok (.ireturn, 1) := by decide +kernel
set_option maxRecDepth 20000 in
theorem ggX13_isLine_X13_in : GoodIn wsX13_isLine wsX13_in := goodIn_r _ [5] (by decide +kernel) (by decide +kernel)
set_option maxRecDepth 20000 in
theorem gX13_isLine_X13_in : GoodIn wsX13_isLine (va_wsS RX13 256 yX13_in wsX13_in) := goodIn_app (goodIn_of _ (by decide +kernel)) ggX13_isLine_X13_in
theorem dX13_isLine_0 : decode cX13_isLine 0 = .ok (.iload_n 1, 1) := by decide +kernel
theorem dX13_isLine_1 : decode cX13_isLine 1 = .ok (.iconst 0, 1) := by decide +kernel
theorem dX13_isLine_2 : decode cX13_isLine 2 = .ok (.aload_n 0, 1) := by decide +kernel
theorem dX13_isLine_3 : decode cX13_isLine 3 = .ok (.getfield 452, 3) := by decide +kernel
theorem dX13_isLine_6 : decode cX13_isLine 6 = .ok (.iconst 1, 1) := by decide +kernel
theorem dX13_isLine_7 : decode cX13_isLine 7 = .ok (.isub, 1) := by decide +kernel
theorem dX13_isLine_8 : decode cX13_isLine 8 = .ok (.invokestatic 256, 3) := by decide +kernel
theorem dX13_isLine_11 : decode cX13_isLine 11 = .ok (.ireturn, 1) := by decide +kernel
theorem dX13_isSetLine_0 : decode cX13_isSetLine 0 = .ok (.aload_n 0, 1) := by decide +kernel
theorem dX13_isSetLine_1 : decode cX13_isSetLine 1 = .ok (.getfield 114, 3) := by decide +kernel
theorem dX13_isSetLine_4 : decode cX13_isSetLine 4 = .ok (.aload_n 0, 1) := by decide +kernel
theorem dX13_isSetLine_5 : decode cX13_isSetLine 5 = .ok (.getfield 135, 3) := by decide +kernel
theorem dX13_isSetLine_8 : decode cX13_isSetLine 8 = .ok (.iload_n 1, 1) := by decide +kernel
theorem dX13_isSetLine_9 : decode cX13_isSetLine 9 = .ok (.iaload, 1) := by decide +kernel
theorem dX13_isSetLine_10 : decode cX13_isSetLine 10 = .ok (.iaload, 1) := by decide +kernel
theorem dX13_isSetLine_11 : decode cX13_isSetLine 11 = .ok (.iconst (-1), 1) := by decide +kernel
theorem dX13_isSetLine_12 : decode cX13_isSetLine 12 = .ok (.if_icmp .eq 7, 3) := by decide +kernel
theorem dX13_isSetLine_15 : decode cX13_isSetLine 15 = .ok (.iconst 1, 1) := by decide +kernel
theorem dX13_isSetLine_16 : decode cX13_isSetLine 16 = .ok (.goto 4, 3) := by decide +kernel
theorem dX13_isSetLine_19 : decode cX13_isSetLine 19 = .ok (.iconst 0, 1) := by decide +kernel
theorem dX13_isSetLine_20 : decode cX13_isSetLine 20 = .ok (.ireturn, 1) := by decide +kernel
theorem dX13_keeps_0 : decode cX13_keeps 0 = .ok (.aload_n 0, 1) := by decide +kernel
theorem dX13_keeps_1 : decode cX13_keeps 1 = .ok (.getfield 147, 3) := by decide +kernel
theorem dX13_keeps_4 : decode cX13_keeps 4 = .ok (.iload_n 1, 1) := by decide +kernel
theorem dX13_keeps_5 : decode cX13_keeps 5 = .ok (.iaload, 1) := by decide +kernel
theorem dX13_keeps_6 : decode cX13_keeps 6 = .ok (.istore 4, 2) := by decide +kernel
theorem dX13_keeps_8 : decode cX13_keeps 8 = .ok (.iconst 0, 1) := by decide +kernel
theorem dX13_keeps_9 : decode cX13_keeps 9 = .ok (.istore 5, 2) := by decide +kernel
theorem dX13_keeps_11 : decode cX13_keeps 11 = .ok (.iload 5, 2) := by decide +kernel
theorem dX13_keeps_13 : decode cX13_keeps 13 = .ok (.aload_n 0, 1) := by decide +kernel
theorem dX13_keeps_14 : decode cX13_keeps 14 = .ok (.getfield 488, 3) := by decide +kernel
theorem dX13_keeps_17 : decode cX13_keeps 17 = .ok (.if_icmp .ge 82, 3) := by decide +kernel
theorem dX13_keeps_20 : decode cX13_keeps 20 = .ok (.aload_n 0, 1) := by decide +kernel
theorem dX13_keeps_21 : decode cX13_keeps 21 = .ok (.getfield 174, 3) := by decide +kernel
theorem dX13_keeps_24 : decode cX13_keeps 24 = .ok (.iload 5, 2) := by decide +kernel
theorem dX13_keeps_26 : decode cX13_keeps 26 = .ok (.iaload, 1) := by decide +kernel
theorem dX13_keeps_27 : decode cX13_keeps 27 = .ok (.iload_n 1, 1) := by decide +kernel
theorem dX13_keeps_28 : decode cX13_keeps 28 = .ok (.if_icmp .ne 65, 3) := by decide +kernel
theorem dX13_keeps_31 : decode cX13_keeps 31 = .ok (.aload_n 0, 1) := by decide +kernel
theorem dX13_keeps_32 : decode cX13_keeps 32 = .ok (.getfield 183, 3) := by decide +kernel
theorem dX13_keeps_35 : decode cX13_keeps 35 = .ok (.iload 5, 2) := by decide +kernel
theorem dX13_keeps_37 : decode cX13_keeps 37 = .ok (.iaload, 1) := by decide +kernel
theorem dX13_keeps_38 : decode cX13_keeps 38 = .ok (.iload_n 2, 1) := by decide +kernel
theorem dX13_keeps_39 : decode cX13_keeps 39 = .ok (.if_icmp .le 6, 3) := by decide +kernel
theorem dX13_keeps_42 : decode cX13_keeps 42 = .ok (.goto 51, 3) := by decide +kernel
theorem dX13_keeps_45 : decode cX13_keeps 45 = .ok (.iload 5, 2) := by decide +kernel
theorem dX13_keeps_47 : decode cX13_keeps 47 = .ok (.iload_n 3, 1) := by decide +kernel
theorem dX13_keeps_48 : decode cX13_keeps 48 = .ok (.if_icmp .ne 24, 3) := by decide +kernel
theorem dX13_keeps_51 : decode cX13_keeps 51 = .ok (.aload_n 0, 1) := by decide +kernel
theorem dX13_keeps_52 : decode cX13_keeps 52 = .ok (.aload_n 0, 1) := by decide +kernel
theorem dX13_keeps_53 : decode cX13_keeps 53 = .ok (.getfield 177, 3) := by decide +kernel
theorem dX13_keeps_56 : decode cX13_keeps 56 = .ok (.iload 5, 2) := by decide +kernel
theorem dX13_keeps_58 : decode cX13_keeps 58 = .ok (.iaload, 1) := by decide +kernel
theorem dX13_keeps_59 : decode cX13_keeps 59 = .ok (.iload 4, 2) := by decide +kernel
theorem dX13_keeps_61 : decode cX13_keeps 61 = .ok (.if_icmp .ne 7, 3) := by decide +kernel
theorem dX13_keeps_64 : decode cX13_keeps 64 = .ok (.iconst 0, 1) := by decide +kernel
theorem dX13_keeps_65 : decode cX13_keeps 65 = .ok (.goto 4, 3) := by decide +kernel
theorem dX13_keeps_68 : decode cX13_keeps 68 = .ok (.iconst 1, 1) := by decide +kernel
theorem dX13_keeps_69 : decode cX13_keeps 69 = .ok (.putfield 491, 3) := by decide +kernel
theorem dX13_keeps_72 : decode cX13_keeps 72 = .ok (.aload_n 0, 1) := by decide +kernel
theorem dX13_keeps_73 : decode cX13_keeps 73 = .ok (.getfield 177, 3) := by decide +kernel
theorem dX13_keeps_76 : decode cX13_keeps 76 = .ok (.iload 5, 2) := by decide +kernel
theorem dX13_keeps_78 : decode cX13_keeps 78 = .ok (.iaload, 1) := by decide +kernel
theorem dX13_keeps_79 : decode cX13_keeps 79 = .ok (.iload 4, 2) := by decide +kernel
theorem dX13_keeps_81 : decode cX13_keeps 81 = .ok (.if_icmp .ne 12, 3) := by decide +kernel
theorem dX13_keeps_84 : decode cX13_keeps 84 = .ok (.aload_n 0, 1) := by decide +kernel
theorem dX13_keeps_85 : decode cX13_keeps 85 = .ok (.getfield 180, 3) := by decide +kernel
theorem dX13_keeps_88 : decode cX13_keeps 88 = .ok (.iload 5, 2) := by decide +kernel
theorem dX13_keeps_90 : decode cX13_keeps 90 = .ok (.iaload, 1) := by decide +kernel
theorem dX13_keeps_91 : decode cX13_keeps 91 = .ok (.istore 4, 2) := by decide +kernel
theorem dX13_keeps_93 : decode cX13_keeps 93 = .ok (.iinc 5 1, 3) := by decide +kernel
theorem dX13_keeps_96 : decode cX13_keeps 96 = .ok (.goto (-85), 3) := by decide +kernel
theorem dX13_keeps_99 : decode cX13_keeps 99 = .ok (.iload 4, 2) := by decide +kernel
theorem dX13_keeps_101 : decode cX13_keeps 101 = .ok (.ireturn, 1) := by decide +kernel
set_option maxRecDepth 20000 in
theorem ggX13_isStale_X13_keeps : GoodIn wsX13_isStale wsX13_keeps := goodIn_r _ [7, 8, 9, 10, 11, 12, 13, 14, 27, 28, 29, 30, 31, 32, 33, 34, 35, 36, 37, 38, 39, 40, 41, 42, 43, 44, 45, 46, 47, 48, 49, 50, 51, 52, 53, 54, 55, 56, 57, 58, 59, 60, 61, 62, 63, 64, 65, 66, 67, 68, 69, 70, 71, 72, 73, 74, 75, 76, 77, 78, 79, 80, 81, 82, 83, 84, 85, 86, 87, 88, 89, 90, 91, 92, 93, 94, 95, 96, 97, 98, 99, 100, 101, 102, 103, 104, 105, 106, 107, 108, 109, 110, 111, 112, 113, 114, 115, 116, 117, 118, 119, 120, 121, 122, 123, 124, 125, 126, 127, 128, 129, 130] (by decide +kernel) (by decide +kernel)
set_option maxRecDepth 20000 in
theorem gX13_isStale_X13_keeps : GoodIn wsX13_isStale (wsV RX13 494 RX13 yX13_keeps wsX13_keeps) := goodIn_app (goodIn_of _ (by decide +kernel)) ggX13_isStale_X13_keeps
set_option maxRecDepth 20000 in
theorem ggX13_isStale_X13_valueOf : GoodIn wsX13_isStale wsX13_valueOf := goodIn_r _ [18, 19, 20, 21, 22, 6, 23, 24, 25, 26, 27, 28, 29, 30, 31, 32, 33, 34, 35, 36, 37, 38, 39, 40, 41, 42, 43, 44, 45, 46, 47, 48, 49, 50, 51, 52, 53, 54, 55, 56, 57, 58, 59, 60, 61, 62, 63, 64, 65, 66, 67, 68, 69, 70, 71, 72, 73, 74, 75, 76, 77, 78, 79, 80, 81, 82, 83, 84, 85, 86, 87, 88, 89, 90, 91, 92, 93, 94, 95, 96, 97, 98, 99, 100, 101, 102, 103, 104, 105, 106, 107, 108, 109, 110, 111, 112, 113, 114, 115, 116, 117, 118, 119, 120, 121, 122, 123, 124, 125, 126, 127, 128, 129, 130] (by decide +kernel) (by decide +kernel)
set_option maxRecDepth 20000 in
theorem gX13_isStale_X13_valueOf : GoodIn wsX13_isStale (wsV RX13 482 RX13 yX13_valueOf wsX13_valueOf) := goodIn_app (goodIn_of _ (by decide +kernel)) ggX13_isStale_X13_valueOf
theorem dX13_isStale_0 : decode cX13_isStale 0 = .ok (.iload_n 1, 1) := by decide +kernel
theorem dX13_isStale_1 : decode cX13_isStale 1 = .ok (.istore_n 3, 1) := by decide +kernel
theorem dX13_isStale_2 : decode cX13_isStale 2 = .ok (.iload_n 3, 1) := by decide +kernel
theorem dX13_isStale_3 : decode cX13_isStale 3 = .ok (.iconst (-1), 1) := by decide +kernel
theorem dX13_isStale_4 : decode cX13_isStale 4 = .ok (.if_icmp .eq 46, 3) := by decide +kernel
theorem dX13_isStale_7 : decode cX13_isStale 7 = .ok (.aload_n 0, 1) := by decide +kernel
theorem dX13_isStale_8 : decode cX13_isStale 8 = .ok (.getfield 141, 3) := by decide +kernel
theorem dX13_isStale_11 : decode cX13_isStale 11 = .ok (.iload_n 3, 1) := by decide +kernel
theorem dX13_isStale_12 : decode cX13_isStale 12 = .ok (.iaload, 1) := by decide +kernel
theorem dX13_isStale_13 : decode cX13_isStale 13 = .ok (.iconst (-1), 1) := by decide +kernel
theorem dX13_isStale_14 : decode cX13_isStale 14 = .ok (.if_icmp .eq 26, 3) := by decide +kernel
theorem dX13_isStale_17 : decode cX13_isStale 17 = .ok (.aload_n 0, 1) := by decide +kernel
theorem dX13_isStale_18 : decode cX13_isStale 18 = .ok (.iload_n 3, 1) := by decide +kernel
theorem dX13_isStale_19 : decode cX13_isStale 19 = .ok (.iload_n 2, 1) := by decide +kernel
theorem dX13_isStale_20 : decode cX13_isStale 20 = .ok (.iconst (-1), 1) := by decide +kernel
theorem dX13_isStale_21 : decode cX13_isStale 21 = .ok (.invokevirtual 494, 3) := by decide +kernel
theorem dX13_isStale_24 : decode cX13_isStale 24 = .ok (.aload_n 0, 1) := by decide +kernel
theorem dX13_isStale_25 : decode cX13_isStale 25 = .ok (.aload_n 0, 1) := by decide +kernel
theorem dX13_isStale_26 : decode cX13_isStale 26 = .ok (.getfield 141, 3) := by decide +kernel
theorem dX13_isStale_29 : decode cX13_isStale 29 = .ok (.iload_n 3, 1) := by decide +kernel
theorem dX13_isStale_30 : decode cX13_isStale 30 = .ok (.iaload, 1) := by decide +kernel
theorem dX13_isStale_31 : decode cX13_isStale 31 = .ok (.iload_n 2, 1) := by decide +kernel
theorem dX13_isStale_32 : decode cX13_isStale 32 = .ok (.invokevirtual 482, 3) := by decide +kernel
theorem dX13_isStale_35 : decode cX13_isStale 35 = .ok (.if_icmp .eq 5, 3) := by decide +kernel
theorem dX13_isStale_38 : decode cX13_isStale 38 = .ok (.iconst 1, 1) := by decide +kernel
theorem dX13_isStale_39 : decode cX13_isStale 39 = .ok (.ireturn, 1) := by decide +kernel
theorem dX13_isStale_40 : decode cX13_isStale 40 = .ok (.aload_n 0, 1) := by decide +kernel
theorem dX13_isStale_41 : decode cX13_isStale 41 = .ok (.getfield 144, 3) := by decide +kernel
theorem dX13_isStale_44 : decode cX13_isStale 44 = .ok (.iload_n 3, 1) := by decide +kernel
theorem dX13_isStale_45 : decode cX13_isStale 45 = .ok (.iaload, 1) := by decide +kernel
theorem dX13_isStale_46 : decode cX13_isStale 46 = .ok (.istore_n 3, 1) := by decide +kernel
theorem dX13_isStale_47 : decode cX13_isStale 47 = .ok (.goto (-45), 3) := by decide +kernel
theorem dX13_isStale_50 : decode cX13_isStale 50 = .ok (.iconst 0, 1) := by decide +kernel
theorem dX13_isStale_51 : decode cX13_isStale 51 = .ok (.ireturn, 1) := by decide +kernel
set_option maxRecDepth 20000 in
theorem ggX13_stale_X13_isLine : GoodIn wsX13_stale wsX13_isLine := goodIn_r _ [5, 6, 7, 8, 4, 9, 39, 40, 41, 42, 43, 44, 45, 46, 47, 48, 49, 50, 51, 52, 53, 54, 55, 56, 57, 58, 59, 60, 61, 62, 63, 64, 65, 66, 67, 68, 69, 70, 71, 72, 73, 74, 75, 76, 77, 78, 79, 80, 81, 82, 83, 84, 85, 86, 87, 88, 89, 90, 91, 92, 93, 94, 95, 96, 97, 98, 99, 100, 101, 102, 103, 104, 105, 106, 107, 108, 109, 110, 111, 112, 113, 114, 115, 116, 117, 118, 119, 120, 121, 122, 123, 124, 125, 126, 127, 128, 129, 130, 131, 132, 133, 134, 135, 136, 137, 138, 139, 140, 141, 142] (by decide +kernel) (by decide +kernel)
set_option maxRecDepth 20000 in
theorem gX13_stale_X13_isLine : GoodIn wsX13_stale (wsV RX13 497 RX13 yX13_isLine wsX13_isLine) := goodIn_app (goodIn_of _ (by decide +kernel)) ggX13_stale_X13_isLine
set_option maxRecDepth 20000 in
theorem ggX13_stale_X13_in : GoodIn wsX13_stale wsX13_in := goodIn_r _ [9] (by decide +kernel) (by decide +kernel)
set_option maxRecDepth 20000 in
theorem gX13_stale_X13_in : GoodIn wsX13_stale (va_wsS RX13 256 yX13_in wsX13_in) := goodIn_app (goodIn_of _ (by decide +kernel)) ggX13_stale_X13_in
set_option maxRecDepth 20000 in
theorem ggX13_stale_X13_isStale : GoodIn wsX13_stale wsX13_isStale := goodIn_r _ [13, 14, 15, 16, 17, 18, 4, 19, 20, 21, 22, 23, 24, 25, 26, 27, 28, 29, 30, 31, 32, 33, 34, 35, 36, 37, 38, 39, 40, 41, 42, 43, 44, 45, 46, 47, 48, 49, 50, 51, 52, 53, 54, 55, 56, 57, 58, 59, 60, 61, 62, 63, 64, 65, 66, 67, 68, 69, 70, 71, 72, 73, 74, 75, 76, 77, 78, 79, 80, 81, 82, 83, 84, 85, 86, 87, 88, 89, 90, 91, 92, 93, 94, 95, 96, 97, 98, 99, 100, 101, 102, 103, 104, 105, 106, 107, 108, 109, 110, 111, 112, 113, 114, 115, 116, 117, 118, 119, 120, 121, 122, 123, 124, 125, 126, 127, 128, 129, 130, 131, 132, 133, 134, 135, 136, 137, 138, 139, 140, 141, 142] (by decide +kernel) (by decide +kernel)
set_option maxRecDepth 20000 in
theorem gX13_stale_X13_isStale : GoodIn wsX13_stale (wsV RX13 500 RX13 yX13_isStale wsX13_isStale) := goodIn_app (goodIn_of _ (by decide +kernel)) ggX13_stale_X13_isStale
theorem dX13_stale_0 : decode cX13_stale 0 = .ok (.aload_n 0, 1) := by decide +kernel
theorem dX13_stale_1 : decode cX13_stale 1 = .ok (.iload_n 1, 1) := by decide +kernel
theorem dX13_stale_2 : decode cX13_stale 2 = .ok (.invokevirtual 497, 3) := by decide +kernel
theorem dX13_stale_5 : decode cX13_stale 5 = .ok (.ifCond .eq 27, 3) := by decide +kernel
theorem dX13_stale_8 : decode cX13_stale 8 = .ok (.iload_n 2, 1) := by decide +kernel
theorem dX13_stale_9 : decode cX13_stale 9 = .ok (.iconst 0, 1) := by decide +kernel
theorem dX13_stale_10 : decode cX13_stale 10 = .ok (.sipush 2000, 3) := by decide +kernel
theorem dX13_stale_13 : decode cX13_stale 13 = .ok (.invokestatic 256, 3) := by decide +kernel
theorem dX13_stale_16 : decode cX13_stale 16 = .ok (.ifCond .eq 16, 3) := by decide +kernel
theorem dX13_stale_19 : decode cX13_stale 19 = .ok (.aload_n 0, 1) := by decide +kernel
theorem dX13_stale_20 : decode cX13_stale 20 = .ok (.iload_n 1, 1) := by decide +kernel
theorem dX13_stale_21 : decode cX13_stale 21 = .ok (.iload_n 2, 1) := by decide +kernel
theorem dX13_stale_22 : decode cX13_stale 22 = .ok (.invokevirtual 500, 3) := by decide +kernel
theorem dX13_stale_25 : decode cX13_stale 25 = .ok (.ifCond .eq 7, 3) := by decide +kernel
theorem dX13_stale_28 : decode cX13_stale 28 = .ok (.iconst 1, 1) := by decide +kernel
theorem dX13_stale_29 : decode cX13_stale 29 = .ok (.goto 4, 3) := by decide +kernel
theorem dX13_stale_32 : decode cX13_stale 32 = .ok (.iconst 0, 1) := by decide +kernel
theorem dX13_stale_33 : decode cX13_stale 33 = .ok (.ireturn, 1) := by decide +kernel
set_option maxRecDepth 20000 in
theorem ggX13_stales_X13_isEntry : GoodIn wsX13_stales wsX13_isEntry := goodIn_r _ [8, 9, 10, 11, 7, 12, 42, 43, 44, 45, 46, 47, 48, 49, 50, 51, 52, 53, 54, 55, 56, 57, 58, 59, 60, 61, 62, 63, 64, 65, 66, 67, 68, 69, 70, 71, 72, 73, 74, 75, 76, 77, 78, 79, 80, 81, 82, 83, 84, 85, 86, 87, 88, 89, 90, 91, 92, 93, 94, 95, 96, 97, 98, 99, 100, 101, 102, 103, 104, 105, 106, 107, 108, 109, 110, 111, 112, 113, 114, 115, 116, 117, 118, 119, 120, 121, 122, 123, 124, 125, 126, 127, 128, 129, 130, 131, 132, 133, 134, 135, 136, 137, 138, 139, 140, 141, 142, 143, 144, 145] (by decide +kernel) (by decide +kernel)
set_option maxRecDepth 20000 in
theorem gX13_stales_X13_isEntry : GoodIn wsX13_stales (wsV RX13 421 RX13 yX13_isEntry wsX13_isEntry) := goodIn_app (goodIn_of _ (by decide +kernel)) ggX13_stales_X13_isEntry
set_option maxRecDepth 20000 in
theorem ggX13_stales_X13_isStale : GoodIn wsX13_stales wsX13_isStale := goodIn_r _ [16, 17, 18, 19, 20, 21, 7, 22, 23, 24, 25, 26, 27, 28, 29, 30, 31, 32, 33, 34, 35, 36, 37, 38, 39, 40, 41, 42, 43, 44, 45, 46, 47, 48, 49, 50, 51, 52, 53, 54, 55, 56, 57, 58, 59, 60, 61, 62, 63, 64, 65, 66, 67, 68, 69, 70, 71, 72, 73, 74, 75, 76, 77, 78, 79, 80, 81, 82, 83, 84, 85, 86, 87, 88, 89, 90, 91, 92, 93, 94, 95, 96, 97, 98, 99, 100, 101, 102, 103, 104, 105, 106, 107, 108, 109, 110, 111, 112, 113, 114, 115, 116, 117, 118, 119, 120, 121, 122, 123, 124, 125, 126, 127, 128, 129, 130, 131, 132, 133, 134, 135, 136, 137, 138, 139, 140, 141, 142, 143, 144, 145] (by decide +kernel) (by decide +kernel)
set_option maxRecDepth 20000 in
theorem gX13_stales_X13_isStale : GoodIn wsX13_stales (wsV RX13 500 RX13 yX13_isStale wsX13_isStale) := goodIn_app (goodIn_of _ (by decide +kernel)) ggX13_stales_X13_isStale
theorem dX13_stales_0 : decode cX13_stales 0 = .ok (.aload_n 0, 1) := by decide +kernel
theorem dX13_stales_1 : decode cX13_stales 1 = .ok (.iload_n 1, 1) := by decide +kernel
theorem dX13_stales_2 : decode cX13_stales 2 = .ok (.invokevirtual 421, 3) := by decide +kernel
theorem dX13_stales_5 : decode cX13_stales 5 = .ok (.ifCond .ne 5, 3) := by decide +kernel
theorem dX13_stales_8 : decode cX13_stales 8 = .ok (.iconst (-1), 1) := by decide +kernel
theorem dX13_stales_9 : decode cX13_stales 9 = .ok (.ireturn, 1) := by decide +kernel
theorem dX13_stales_10 : decode cX13_stales 10 = .ok (.iconst 0, 1) := by decide +kernel
theorem dX13_stales_11 : decode cX13_stales 11 = .ok (.istore_n 2, 1) := by decide +kernel
theorem dX13_stales_12 : decode cX13_stales 12 = .ok (.iconst 0, 1) := by decide +kernel
theorem dX13_stales_13 : decode cX13_stales 13 = .ok (.istore_n 3, 1) := by decide +kernel
theorem dX13_stales_14 : decode cX13_stales 14 = .ok (.iload_n 3, 1) := by decide +kernel
theorem dX13_stales_15 : decode cX13_stales 15 = .ok (.aload_n 0, 1) := by decide +kernel
theorem dX13_stales_16 : decode cX13_stales 16 = .ok (.getfield 452, 3) := by decide +kernel
theorem dX13_stales_19 : decode cX13_stales 19 = .ok (.if_icmp .ge 39, 3) := by decide +kernel
theorem dX13_stales_22 : decode cX13_stales 22 = .ok (.iload_n 2, 1) := by decide +kernel
theorem dX13_stales_23 : decode cX13_stales 23 = .ok (.aload_n 0, 1) := by decide +kernel
theorem dX13_stales_24 : decode cX13_stales 24 = .ok (.getfield 135, 3) := by decide +kernel
theorem dX13_stales_27 : decode cX13_stales 27 = .ok (.iload_n 3, 1) := by decide +kernel
theorem dX13_stales_28 : decode cX13_stales 28 = .ok (.iaload, 1) := by decide +kernel
theorem dX13_stales_29 : decode cX13_stales 29 = .ok (.iload_n 1, 1) := by decide +kernel
theorem dX13_stales_30 : decode cX13_stales 30 = .ok (.if_icmp .ne 19, 3) := by decide +kernel
theorem dX13_stales_33 : decode cX13_stales 33 = .ok (.aload_n 0, 1) := by decide +kernel
theorem dX13_stales_34 : decode cX13_stales 34 = .ok (.iload_n 3, 1) := by decide +kernel
theorem dX13_stales_35 : decode cX13_stales 35 = .ok (.aload_n 0, 1) := by decide +kernel
theorem dX13_stales_36 : decode cX13_stales 36 = .ok (.getfield 383, 3) := by decide +kernel
theorem dX13_stales_39 : decode cX13_stales 39 = .ok (.invokevirtual 500, 3) := by decide +kernel
theorem dX13_stales_42 : decode cX13_stales 42 = .ok (.ifCond .eq 7, 3) := by decide +kernel
theorem dX13_stales_45 : decode cX13_stales 45 = .ok (.iconst 1, 1) := by decide +kernel
theorem dX13_stales_46 : decode cX13_stales 46 = .ok (.goto 4, 3) := by decide +kernel
theorem dX13_stales_49 : decode cX13_stales 49 = .ok (.iconst 0, 1) := by decide +kernel
theorem dX13_stales_50 : decode cX13_stales 50 = .ok (.iadd, 1) := by decide +kernel
theorem dX13_stales_51 : decode cX13_stales 51 = .ok (.istore_n 2, 1) := by decide +kernel
theorem dX13_stales_52 : decode cX13_stales 52 = .ok (.iinc 3 1, 3) := by decide +kernel
theorem dX13_stales_55 : decode cX13_stales 55 = .ok (.goto (-41), 3) := by decide +kernel
theorem dX13_stales_58 : decode cX13_stales 58 = .ok (.iload_n 2, 1) := by decide +kernel
theorem dX13_stales_59 : decode cX13_stales 59 = .ok (.ireturn, 1) := by decide +kernel
set_option maxRecDepth 20000 in
theorem ggX13_mend_X13_isLine : GoodIn wsX13_mend wsX13_isLine := goodIn_r _ [8, 9, 10, 11, 7, 12, 31, 32, 33, 34, 35, 36, 37, 38, 39, 40, 41, 42, 43, 44, 45, 46, 47, 48, 49, 50, 51, 52, 53, 54, 55, 56, 57, 58, 59, 60, 61, 62, 63, 64, 65, 66, 67, 68, 69, 70, 71, 72, 73, 74, 75, 76, 77, 78, 79, 80, 81, 82, 83, 84, 85, 86, 87, 88, 89, 90, 91, 92, 93, 94, 95, 96, 97, 98, 99, 100, 101, 102, 103, 104, 105, 106, 107, 108, 109, 110, 111, 112, 113, 114, 115, 116, 117, 118, 119, 120, 121, 122, 123, 124, 125, 126, 127, 128, 129, 130, 131, 132, 133, 134] (by decide +kernel) (by decide +kernel)
set_option maxRecDepth 20000 in
theorem gX13_mend_X13_isLine : GoodIn wsX13_mend (wsV RX13 497 RX13 yX13_isLine wsX13_isLine) := goodIn_app (goodIn_of _ (by decide +kernel)) ggX13_mend_X13_isLine
set_option maxRecDepth 20000 in
theorem ggX13_mend_X13_isSetLine : GoodIn wsX13_mend wsX13_isSetLine := goodIn_r _ [16, 17, 18, 31, 32, 33, 34, 35, 36, 37, 38, 39, 40, 41, 42, 43, 44, 45, 46, 47, 48, 49, 50, 51, 52, 53, 54, 55, 56, 57, 58, 59, 60, 61, 62, 63, 64, 65, 66, 67, 68, 69, 70, 71, 72, 73, 74, 75, 76, 77, 78, 79, 80, 81, 82, 83, 84, 85, 86, 87, 88, 89, 90, 91, 92, 93, 94, 95, 96, 97, 98, 99, 100, 101, 102, 103, 104, 105, 106, 107, 108, 109, 110, 111, 112, 113, 114, 115, 116, 117, 118, 119, 120, 121, 122, 123, 124, 125, 126, 127, 128, 129, 130, 131, 132, 133, 134] (by decide +kernel) (by decide +kernel)
set_option maxRecDepth 20000 in
theorem gX13_mend_X13_isSetLine : GoodIn wsX13_mend (wsV RX13 503 RX13 yX13_isSetLine wsX13_isSetLine) := goodIn_app (goodIn_of _ (by decide +kernel)) ggX13_mend_X13_isSetLine
set_option maxRecDepth 20000 in
theorem ggX13_mend_X13_valueOf : GoodIn wsX13_mend wsX13_valueOf := goodIn_r _ [22, 23, 24, 25, 26, 7, 27, 28, 29, 30, 31, 32, 33, 34, 35, 36, 37, 38, 39, 40, 41, 42, 43, 44, 45, 46, 47, 48, 49, 50, 51, 52, 53, 54, 55, 56, 57, 58, 59, 60, 61, 62, 63, 64, 65, 66, 67, 68, 69, 70, 71, 72, 73, 74, 75, 76, 77, 78, 79, 80, 81, 82, 83, 84, 85, 86, 87, 88, 89, 90, 91, 92, 93, 94, 95, 96, 97, 98, 99, 100, 101, 102, 103, 104, 105, 106, 107, 108, 109, 110, 111, 112, 113, 114, 115, 116, 117, 118, 119, 120, 121, 122, 123, 124, 125, 126, 127, 128, 129, 130, 131, 132, 133, 134] (by decide +kernel) (by decide +kernel)
set_option maxRecDepth 20000 in
theorem gX13_mend_X13_valueOf : GoodIn wsX13_mend (wsV RX13 482 RX13 yX13_valueOf wsX13_valueOf) := goodIn_app (goodIn_of _ (by decide +kernel)) ggX13_mend_X13_valueOf
theorem dX13_mend_0 : decode cX13_mend 0 = .ok (.aload_n 0, 1) := by decide +kernel
theorem dX13_mend_1 : decode cX13_mend 1 = .ok (.iload_n 1, 1) := by decide +kernel
theorem dX13_mend_2 : decode cX13_mend 2 = .ok (.invokevirtual 497, 3) := by decide +kernel
theorem dX13_mend_5 : decode cX13_mend 5 = .ok (.ifCond .eq 21, 3) := by decide +kernel
theorem dX13_mend_8 : decode cX13_mend 8 = .ok (.aload_n 0, 1) := by decide +kernel
theorem dX13_mend_9 : decode cX13_mend 9 = .ok (.iload_n 1, 1) := by decide +kernel
theorem dX13_mend_10 : decode cX13_mend 10 = .ok (.invokevirtual 503, 3) := by decide +kernel
theorem dX13_mend_13 : decode cX13_mend 13 = .ok (.ifCond .ne 13, 3) := by decide +kernel
theorem dX13_mend_16 : decode cX13_mend 16 = .ok (.aload_n 0, 1) := by decide +kernel
theorem dX13_mend_17 : decode cX13_mend 17 = .ok (.getfield 141, 3) := by decide +kernel
theorem dX13_mend_20 : decode cX13_mend 20 = .ok (.iload_n 1, 1) := by decide +kernel
theorem dX13_mend_21 : decode cX13_mend 21 = .ok (.iaload, 1) := by decide +kernel
theorem dX13_mend_22 : decode cX13_mend 22 = .ok (.iconst (-1), 1) := by decide +kernel
theorem dX13_mend_23 : decode cX13_mend 23 = .ok (.if_icmp .ne 5, 3) := by decide +kernel
theorem dX13_mend_26 : decode cX13_mend 26 = .ok (.iconst (-1), 1) := by decide +kernel
theorem dX13_mend_27 : decode cX13_mend 27 = .ok (.ireturn, 1) := by decide +kernel
theorem dX13_mend_28 : decode cX13_mend 28 = .ok (.aload_n 0, 1) := by decide +kernel
theorem dX13_mend_29 : decode cX13_mend 29 = .ok (.getfield 147, 3) := by decide +kernel
theorem dX13_mend_32 : decode cX13_mend 32 = .ok (.iload_n 1, 1) := by decide +kernel
theorem dX13_mend_33 : decode cX13_mend 33 = .ok (.aload_n 0, 1) := by decide +kernel
theorem dX13_mend_34 : decode cX13_mend 34 = .ok (.aload_n 0, 1) := by decide +kernel
theorem dX13_mend_35 : decode cX13_mend 35 = .ok (.getfield 141, 3) := by decide +kernel
theorem dX13_mend_38 : decode cX13_mend 38 = .ok (.iload_n 1, 1) := by decide +kernel
theorem dX13_mend_39 : decode cX13_mend 39 = .ok (.iaload, 1) := by decide +kernel
theorem dX13_mend_40 : decode cX13_mend 40 = .ok (.aload_n 0, 1) := by decide +kernel
theorem dX13_mend_41 : decode cX13_mend 41 = .ok (.getfield 383, 3) := by decide +kernel
theorem dX13_mend_44 : decode cX13_mend 44 = .ok (.invokevirtual 482, 3) := by decide +kernel
theorem dX13_mend_47 : decode cX13_mend 47 = .ok (.iastore, 1) := by decide +kernel
theorem dX13_mend_48 : decode cX13_mend 48 = .ok (.aload_n 0, 1) := by decide +kernel
theorem dX13_mend_49 : decode cX13_mend 49 = .ok (.getfield 147, 3) := by decide +kernel
theorem dX13_mend_52 : decode cX13_mend 52 = .ok (.iload_n 1, 1) := by decide +kernel
theorem dX13_mend_53 : decode cX13_mend 53 = .ok (.iaload, 1) := by decide +kernel
theorem dX13_mend_54 : decode cX13_mend 54 = .ok (.ireturn, 1) := by decide +kernel
set_option maxRecDepth 20000 in
theorem ggX13_erratum_X13_isLine : GoodIn wsX13_erratum wsX13_isLine := goodIn_r _ [12, 13, 14, 15, 11, 16, 23, 24, 25, 26, 27, 28, 29, 30, 31, 32, 33, 34, 35, 36, 37, 38, 39, 40, 41, 42, 43, 44, 45, 46, 47, 48, 49, 50, 51, 52, 53, 54, 55, 56, 57, 58, 59, 60, 61, 62, 63, 64, 65, 66, 67, 68, 69, 70, 71, 72, 73, 74, 75, 76, 77, 78, 79, 80, 81, 82, 83, 84, 85, 86, 87, 88, 89, 90, 91, 92, 93, 94, 95, 96, 97, 98, 99, 100, 101, 102, 103, 104, 105, 106, 107, 108, 109, 110, 111, 112, 113, 114, 115, 116, 117, 118, 119, 120, 121, 122, 123, 124, 125, 126] (by decide +kernel) (by decide +kernel)
set_option maxRecDepth 20000 in
theorem gX13_erratum_X13_isLine : GoodIn wsX13_erratum (wsV RX13 497 RX13 yX13_isLine wsX13_isLine) := goodIn_app (goodIn_of _ (by decide +kernel)) ggX13_erratum_X13_isLine
set_option maxRecDepth 20000 in
theorem ggX13_erratum_X13_isSetLine : GoodIn wsX13_erratum wsX13_isSetLine := goodIn_r _ [20, 21, 22, 23, 24, 25, 26, 27, 28, 29, 30, 31, 32, 33, 34, 35, 36, 37, 38, 39, 40, 41, 42, 43, 44, 45, 46, 47, 48, 49, 50, 51, 52, 53, 54, 55, 56, 57, 58, 59, 60, 61, 62, 63, 64, 65, 66, 67, 68, 69, 70, 71, 72, 73, 74, 75, 76, 77, 78, 79, 80, 81, 82, 83, 84, 85, 86, 87, 88, 89, 90, 91, 92, 93, 94, 95, 96, 97, 98, 99, 100, 101, 102, 103, 104, 105, 106, 107, 108, 109, 110, 111, 112, 113, 114, 115, 116, 117, 118, 119, 120, 121, 122, 123, 124, 125, 126] (by decide +kernel) (by decide +kernel)
set_option maxRecDepth 20000 in
theorem gX13_erratum_X13_isSetLine : GoodIn wsX13_erratum (wsV RX13 503 RX13 yX13_isSetLine wsX13_isSetLine) := goodIn_app (goodIn_of _ (by decide +kernel)) ggX13_erratum_X13_isSetLine
set_option maxRecDepth 20000 in
theorem ggX13_erratum_X13_in : GoodIn wsX13_erratum wsX13_in := goodIn_r _ [16] (by decide +kernel) (by decide +kernel)
set_option maxRecDepth 20000 in
theorem gX13_erratum_X13_in : GoodIn wsX13_erratum (va_wsS RX13 256 yX13_in wsX13_in) := goodIn_app (goodIn_of _ (by decide +kernel)) ggX13_erratum_X13_in
theorem dX13_erratum_0 : decode cX13_erratum 0 = .ok (.aload_n 0, 1) := by decide +kernel
theorem dX13_erratum_1 : decode cX13_erratum 1 = .ok (.iload_n 1, 1) := by decide +kernel
theorem dX13_erratum_2 : decode cX13_erratum 2 = .ok (.invokevirtual 497, 3) := by decide +kernel
theorem dX13_erratum_5 : decode cX13_erratum 5 = .ok (.ifCond .eq 52, 3) := by decide +kernel
theorem dX13_erratum_8 : decode cX13_erratum 8 = .ok (.aload_n 0, 1) := by decide +kernel
theorem dX13_erratum_9 : decode cX13_erratum 9 = .ok (.iload_n 1, 1) := by decide +kernel
theorem dX13_erratum_10 : decode cX13_erratum 10 = .ok (.invokevirtual 503, 3) := by decide +kernel
theorem dX13_erratum_13 : decode cX13_erratum 13 = .ok (.ifCond .eq 44, 3) := by decide +kernel
theorem dX13_erratum_16 : decode cX13_erratum 16 = .ok (.aload_n 0, 1) := by decide +kernel
theorem dX13_erratum_17 : decode cX13_erratum 17 = .ok (.getfield 141, 3) := by decide +kernel
theorem dX13_erratum_20 : decode cX13_erratum 20 = .ok (.iload_n 1, 1) := by decide +kernel
theorem dX13_erratum_21 : decode cX13_erratum 21 = .ok (.iaload, 1) := by decide +kernel
theorem dX13_erratum_22 : decode cX13_erratum 22 = .ok (.iconst (-1), 1) := by decide +kernel
theorem dX13_erratum_23 : decode cX13_erratum 23 = .ok (.if_icmp .eq 34, 3) := by decide +kernel
theorem dX13_erratum_26 : decode cX13_erratum 26 = .ok (.iload_n 2, 1) := by decide +kernel
theorem dX13_erratum_27 : decode cX13_erratum 27 = .ok (.iconst 0, 1) := by decide +kernel
theorem dX13_erratum_28 : decode cX13_erratum 28 = .ok (.sipush 999, 3) := by decide +kernel
theorem dX13_erratum_31 : decode cX13_erratum 31 = .ok (.invokestatic 256, 3) := by decide +kernel
theorem dX13_erratum_34 : decode cX13_erratum 34 = .ok (.ifCond .eq 23, 3) := by decide +kernel
theorem dX13_erratum_37 : decode cX13_erratum 37 = .ok (.iload_n 3, 1) := by decide +kernel
theorem dX13_erratum_38 : decode cX13_erratum 38 = .ok (.iconst 0, 1) := by decide +kernel
theorem dX13_erratum_39 : decode cX13_erratum 39 = .ok (.sipush 999, 3) := by decide +kernel
theorem dX13_erratum_42 : decode cX13_erratum 42 = .ok (.invokestatic 256, 3) := by decide +kernel
theorem dX13_erratum_45 : decode cX13_erratum 45 = .ok (.ifCond .eq 12, 3) := by decide +kernel
theorem dX13_erratum_48 : decode cX13_erratum 48 = .ok (.aload_n 0, 1) := by decide +kernel
theorem dX13_erratum_49 : decode cX13_erratum 49 = .ok (.getfield 488, 3) := by decide +kernel
theorem dX13_erratum_52 : decode cX13_erratum 52 = .ok (.bipush 60, 2) := by decide +kernel
theorem dX13_erratum_54 : decode cX13_erratum 54 = .ok (.if_icmp .ne 5, 3) := by decide +kernel
theorem dX13_erratum_57 : decode cX13_erratum 57 = .ok (.iconst (-1), 1) := by decide +kernel
theorem dX13_erratum_58 : decode cX13_erratum 58 = .ok (.ireturn, 1) := by decide +kernel
theorem dX13_erratum_59 : decode cX13_erratum 59 = .ok (.aload_n 0, 1) := by decide +kernel
theorem dX13_erratum_60 : decode cX13_erratum 60 = .ok (.getfield 174, 3) := by decide +kernel
theorem dX13_erratum_63 : decode cX13_erratum 63 = .ok (.aload_n 0, 1) := by decide +kernel
theorem dX13_erratum_64 : decode cX13_erratum 64 = .ok (.getfield 488, 3) := by decide +kernel
theorem dX13_erratum_67 : decode cX13_erratum 67 = .ok (.iload_n 1, 1) := by decide +kernel
theorem dX13_erratum_68 : decode cX13_erratum 68 = .ok (.iastore, 1) := by decide +kernel
theorem dX13_erratum_69 : decode cX13_erratum 69 = .ok (.aload_n 0, 1) := by decide +kernel
theorem dX13_erratum_70 : decode cX13_erratum 70 = .ok (.getfield 177, 3) := by decide +kernel
theorem dX13_erratum_73 : decode cX13_erratum 73 = .ok (.aload_n 0, 1) := by decide +kernel
theorem dX13_erratum_74 : decode cX13_erratum 74 = .ok (.getfield 488, 3) := by decide +kernel
theorem dX13_erratum_77 : decode cX13_erratum 77 = .ok (.iload_n 2, 1) := by decide +kernel
theorem dX13_erratum_78 : decode cX13_erratum 78 = .ok (.iastore, 1) := by decide +kernel
theorem dX13_erratum_79 : decode cX13_erratum 79 = .ok (.aload_n 0, 1) := by decide +kernel
theorem dX13_erratum_80 : decode cX13_erratum 80 = .ok (.getfield 180, 3) := by decide +kernel
theorem dX13_erratum_83 : decode cX13_erratum 83 = .ok (.aload_n 0, 1) := by decide +kernel
theorem dX13_erratum_84 : decode cX13_erratum 84 = .ok (.getfield 488, 3) := by decide +kernel
theorem dX13_erratum_87 : decode cX13_erratum 87 = .ok (.iload_n 3, 1) := by decide +kernel
theorem dX13_erratum_88 : decode cX13_erratum 88 = .ok (.iastore, 1) := by decide +kernel
theorem dX13_erratum_89 : decode cX13_erratum 89 = .ok (.aload_n 0, 1) := by decide +kernel
theorem dX13_erratum_90 : decode cX13_erratum 90 = .ok (.getfield 183, 3) := by decide +kernel
theorem dX13_erratum_93 : decode cX13_erratum 93 = .ok (.aload_n 0, 1) := by decide +kernel
theorem dX13_erratum_94 : decode cX13_erratum 94 = .ok (.getfield 488, 3) := by decide +kernel
theorem dX13_erratum_97 : decode cX13_erratum 97 = .ok (.aload_n 0, 1) := by decide +kernel
theorem dX13_erratum_98 : decode cX13_erratum 98 = .ok (.getfield 383, 3) := by decide +kernel
theorem dX13_erratum_101 : decode cX13_erratum 101 = .ok (.iastore, 1) := by decide +kernel
theorem dX13_erratum_102 : decode cX13_erratum 102 = .ok (.aload_n 0, 1) := by decide +kernel
theorem dX13_erratum_103 : decode cX13_erratum 103 = .ok (.dup, 1) := by decide +kernel
theorem dX13_erratum_104 : decode cX13_erratum 104 = .ok (.getfield 488, 3) := by decide +kernel
theorem dX13_erratum_107 : decode cX13_erratum 107 = .ok (.iconst 1, 1) := by decide +kernel
theorem dX13_erratum_108 : decode cX13_erratum 108 = .ok (.iadd, 1) := by decide +kernel
theorem dX13_erratum_109 : decode cX13_erratum 109 = .ok (.putfield 488, 3) := by decide +kernel
theorem dX13_erratum_112 : decode cX13_erratum 112 = .ok (.aload_n 0, 1) := by decide +kernel
theorem dX13_erratum_113 : decode cX13_erratum 113 = .ok (.getfield 488, 3) := by decide +kernel
theorem dX13_erratum_116 : decode cX13_erratum 116 = .ok (.iconst 1, 1) := by decide +kernel
theorem dX13_erratum_117 : decode cX13_erratum 117 = .ok (.isub, 1) := by decide +kernel
theorem dX13_erratum_118 : decode cX13_erratum 118 = .ok (.ireturn, 1) := by decide +kernel
set_option maxRecDepth 20000 in
theorem ggX13_misses_X13_in : GoodIn wsX13_misses wsX13_in := goodIn_r _ [7] (by decide +kernel) (by decide +kernel)
set_option maxRecDepth 20000 in
theorem gX13_misses_X13_in : GoodIn wsX13_misses (va_wsS RX13 256 yX13_in wsX13_in) := goodIn_app (goodIn_of _ (by decide +kernel)) ggX13_misses_X13_in
set_option maxRecDepth 20000 in
theorem ggX13_misses_X13_keeps : GoodIn wsX13_misses wsX13_keeps := goodIn_r _ [11, 12, 1, 2, 13, 14, 3, 15, 16, 17, 18, 19, 20, 21, 22, 23, 24, 25, 26, 27, 28, 29, 30, 31, 32, 33, 34, 35, 36, 37, 38, 39, 40, 41, 42, 43, 44, 45, 46, 47, 48, 49, 50, 51, 52, 53, 54, 55, 56, 57, 58, 59, 60, 61, 62, 63, 64, 65, 66, 67, 68, 69, 70, 71, 72, 73, 74, 75, 76, 77, 78, 79, 80, 81, 82, 83, 84, 85, 86, 87, 88, 89, 90, 91, 92, 93, 94, 95, 96, 97, 98, 99, 100, 101, 102, 103, 104, 105, 106, 107, 108, 109, 110, 111, 112, 113, 114, 115, 116, 117, 118, 119] (by decide +kernel) (by decide +kernel)
set_option maxRecDepth 20000 in
theorem gX13_misses_X13_keeps : GoodIn wsX13_misses (wsV RX13 494 RX13 yX13_keeps wsX13_keeps) := goodIn_app (goodIn_of _ (by decide +kernel)) ggX13_misses_X13_keeps
theorem dX13_misses_0 : decode cX13_misses 0 = .ok (.iload_n 1, 1) := by decide +kernel
theorem dX13_misses_1 : decode cX13_misses 1 = .ok (.iconst 0, 1) := by decide +kernel
theorem dX13_misses_2 : decode cX13_misses 2 = .ok (.aload_n 0, 1) := by decide +kernel
theorem dX13_misses_3 : decode cX13_misses 3 = .ok (.getfield 488, 3) := by decide +kernel
theorem dX13_misses_6 : decode cX13_misses 6 = .ok (.iconst 1, 1) := by decide +kernel
theorem dX13_misses_7 : decode cX13_misses 7 = .ok (.isub, 1) := by decide +kernel
theorem dX13_misses_8 : decode cX13_misses 8 = .ok (.invokestatic 256, 3) := by decide +kernel
theorem dX13_misses_11 : decode cX13_misses 11 = .ok (.ifCond .ne 5, 3) := by decide +kernel
theorem dX13_misses_14 : decode cX13_misses 14 = .ok (.iconst (-1), 1) := by decide +kernel
theorem dX13_misses_15 : decode cX13_misses 15 = .ok (.ireturn, 1) := by decide +kernel
theorem dX13_misses_16 : decode cX13_misses 16 = .ok (.aload_n 0, 1) := by decide +kernel
theorem dX13_misses_17 : decode cX13_misses 17 = .ok (.aload_n 0, 1) := by decide +kernel
theorem dX13_misses_18 : decode cX13_misses 18 = .ok (.getfield 174, 3) := by decide +kernel
theorem dX13_misses_21 : decode cX13_misses 21 = .ok (.iload_n 1, 1) := by decide +kernel
theorem dX13_misses_22 : decode cX13_misses 22 = .ok (.iaload, 1) := by decide +kernel
theorem dX13_misses_23 : decode cX13_misses 23 = .ok (.sipush 2000, 3) := by decide +kernel
theorem dX13_misses_26 : decode cX13_misses 26 = .ok (.iload_n 1, 1) := by decide +kernel
theorem dX13_misses_27 : decode cX13_misses 27 = .ok (.invokevirtual 494, 3) := by decide +kernel
theorem dX13_misses_30 : decode cX13_misses 30 = .ok (.pop, 1) := by decide +kernel
theorem dX13_misses_31 : decode cX13_misses 31 = .ok (.aload_n 0, 1) := by decide +kernel
theorem dX13_misses_32 : decode cX13_misses 32 = .ok (.getfield 491, 3) := by decide +kernel
theorem dX13_misses_35 : decode cX13_misses 35 = .ok (.ireturn, 1) := by decide +kernel
set_option maxRecDepth 20000 in
theorem ggX13_told_X13_isLine : GoodIn wsX13_told wsX13_isLine := goodIn_r _ [12, 13, 14, 15, 11, 16, 27, 28, 29, 30, 31, 32, 33, 34, 35, 36, 37, 38, 39, 40, 41, 42, 43, 44, 45, 46, 47, 48, 49, 50, 51, 52, 53, 54, 55, 56, 57, 58, 59, 60, 61, 62, 63, 64, 65, 66, 67, 68, 69, 70, 71, 72, 73, 74, 75, 76, 77, 78, 79, 80, 81, 82, 83, 84, 85, 86, 87, 88, 89, 90, 91, 92, 93, 94, 95, 96, 97, 98, 99, 100, 101, 102, 103, 104, 105, 106, 107, 108, 109, 110, 111, 112, 113, 114, 115, 116, 117, 118, 119, 120, 121, 122, 123, 124, 125, 126, 127, 128, 129, 130] (by decide +kernel) (by decide +kernel)
set_option maxRecDepth 20000 in
theorem gX13_told_X13_isLine : GoodIn wsX13_told (wsV RX13 497 RX13 yX13_isLine wsX13_isLine) := goodIn_app (goodIn_of _ (by decide +kernel)) ggX13_told_X13_isLine
set_option maxRecDepth 20000 in
theorem ggX13_told_X13_keeps : GoodIn wsX13_told wsX13_keeps := goodIn_r _ [20, 1, 21, 22, 23, 24, 25, 26, 27, 28, 29, 30, 31, 32, 33, 34, 35, 36, 37, 38, 39, 40, 41, 42, 43, 44, 45, 46, 47, 48, 49, 50, 51, 52, 53, 54, 55, 56, 57, 58, 59, 60, 61, 62, 63, 64, 65, 66, 67, 68, 69, 70, 71, 72, 73, 74, 75, 76, 77, 78, 79, 80, 81, 82, 83, 84, 85, 86, 87, 88, 89, 90, 91, 92, 93, 94, 95, 96, 97, 98, 99, 100, 101, 102, 103, 104, 105, 106, 107, 108, 109, 110, 111, 112, 113, 114, 115, 116, 117, 118, 119, 120, 121, 122, 123, 124, 125, 126, 127, 128, 129, 130] (by decide +kernel) (by decide +kernel)
set_option maxRecDepth 20000 in
theorem gX13_told_X13_keeps : GoodIn wsX13_told (wsV RX13 494 RX13 yX13_keeps wsX13_keeps) := goodIn_app (goodIn_of _ (by decide +kernel)) ggX13_told_X13_keeps
theorem dX13_told_0 : decode cX13_told 0 = .ok (.aload_n 0, 1) := by decide +kernel
theorem dX13_told_1 : decode cX13_told 1 = .ok (.iload_n 1, 1) := by decide +kernel
theorem dX13_told_2 : decode cX13_told 2 = .ok (.invokevirtual 497, 3) := by decide +kernel
theorem dX13_told_5 : decode cX13_told 5 = .ok (.ifCond .ne 5, 3) := by decide +kernel
theorem dX13_told_8 : decode cX13_told 8 = .ok (.iconst (-1), 1) := by decide +kernel
theorem dX13_told_9 : decode cX13_told 9 = .ok (.ireturn, 1) := by decide +kernel
theorem dX13_told_10 : decode cX13_told 10 = .ok (.iload_n 2, 1) := by decide +kernel
theorem dX13_told_11 : decode cX13_told 11 = .ok (.tableswitch 104 0 7 #[45, 52, 62, 69, 76, 83, 90, 97], 45) := by decide +kernel
theorem dX13_told_56 : decode cX13_told 56 = .ok (.aload_n 0, 1) := by decide +kernel
theorem dX13_told_57 : decode cX13_told 57 = .ok (.getfield 147, 3) := by decide +kernel
theorem dX13_told_60 : decode cX13_told 60 = .ok (.iload_n 1, 1) := by decide +kernel
theorem dX13_told_61 : decode cX13_told 61 = .ok (.iaload, 1) := by decide +kernel
theorem dX13_told_62 : decode cX13_told 62 = .ok (.ireturn, 1) := by decide +kernel
theorem dX13_told_63 : decode cX13_told 63 = .ok (.aload_n 0, 1) := by decide +kernel
theorem dX13_told_64 : decode cX13_told 64 = .ok (.iload_n 1, 1) := by decide +kernel
theorem dX13_told_65 : decode cX13_told 65 = .ok (.sipush 2000, 3) := by decide +kernel
theorem dX13_told_68 : decode cX13_told 68 = .ok (.iconst (-1), 1) := by decide +kernel
theorem dX13_told_69 : decode cX13_told 69 = .ok (.invokevirtual 494, 3) := by decide +kernel
theorem dX13_told_72 : decode cX13_told 72 = .ok (.ireturn, 1) := by decide +kernel
theorem dX13_told_73 : decode cX13_told 73 = .ok (.aload_n 0, 1) := by decide +kernel
theorem dX13_told_74 : decode cX13_told 74 = .ok (.getfield 141, 3) := by decide +kernel
theorem dX13_told_77 : decode cX13_told 77 = .ok (.iload_n 1, 1) := by decide +kernel
theorem dX13_told_78 : decode cX13_told 78 = .ok (.iaload, 1) := by decide +kernel
theorem dX13_told_79 : decode cX13_told 79 = .ok (.ireturn, 1) := by decide +kernel
theorem dX13_told_80 : decode cX13_told 80 = .ok (.aload_n 0, 1) := by decide +kernel
theorem dX13_told_81 : decode cX13_told 81 = .ok (.getfield 144, 3) := by decide +kernel
theorem dX13_told_84 : decode cX13_told 84 = .ok (.iload_n 1, 1) := by decide +kernel
theorem dX13_told_85 : decode cX13_told 85 = .ok (.iaload, 1) := by decide +kernel
theorem dX13_told_86 : decode cX13_told 86 = .ok (.ireturn, 1) := by decide +kernel
theorem dX13_told_87 : decode cX13_told 87 = .ok (.aload_n 0, 1) := by decide +kernel
theorem dX13_told_88 : decode cX13_told 88 = .ok (.getfield 135, 3) := by decide +kernel
theorem dX13_told_91 : decode cX13_told 91 = .ok (.iload_n 1, 1) := by decide +kernel
theorem dX13_told_92 : decode cX13_told 92 = .ok (.iaload, 1) := by decide +kernel
theorem dX13_told_93 : decode cX13_told 93 = .ok (.ireturn, 1) := by decide +kernel
theorem dX13_told_94 : decode cX13_told 94 = .ok (.aload_n 0, 1) := by decide +kernel
theorem dX13_told_95 : decode cX13_told 95 = .ok (.getfield 156, 3) := by decide +kernel
theorem dX13_told_98 : decode cX13_told 98 = .ok (.iload_n 1, 1) := by decide +kernel
theorem dX13_told_99 : decode cX13_told 99 = .ok (.iaload, 1) := by decide +kernel
theorem dX13_told_100 : decode cX13_told 100 = .ok (.ireturn, 1) := by decide +kernel
theorem dX13_told_101 : decode cX13_told 101 = .ok (.aload_n 0, 1) := by decide +kernel
theorem dX13_told_102 : decode cX13_told 102 = .ok (.getfield 153, 3) := by decide +kernel
theorem dX13_told_105 : decode cX13_told 105 = .ok (.iload_n 1, 1) := by decide +kernel
theorem dX13_told_106 : decode cX13_told 106 = .ok (.iaload, 1) := by decide +kernel
theorem dX13_told_107 : decode cX13_told 107 = .ok (.ireturn, 1) := by decide +kernel
theorem dX13_told_108 : decode cX13_told 108 = .ok (.aload_n 0, 1) := by decide +kernel
theorem dX13_told_109 : decode cX13_told 109 = .ok (.getfield 138, 3) := by decide +kernel
theorem dX13_told_112 : decode cX13_told 112 = .ok (.iload_n 1, 1) := by decide +kernel
theorem dX13_told_113 : decode cX13_told 113 = .ok (.iaload, 1) := by decide +kernel
theorem dX13_told_114 : decode cX13_told 114 = .ok (.ireturn, 1) := by decide +kernel
theorem dX13_told_115 : decode cX13_told 115 = .ok (.iconst (-1), 1) := by decide +kernel
theorem dX13_told_116 : decode cX13_told 116 = .ok (.ireturn, 1) := by decide +kernel
set_option maxRecDepth 20000 in
theorem ggX13_canBeSet_X13_isDone : GoodIn wsX13_canBeSet wsX13_isDone := goodIn_r _ [10, 2, 11, 12, 13, 14, 9, 15, 16, 17, 100, 101, 102, 103, 104, 105, 106, 107, 108, 109, 110, 111, 112, 113, 114, 115, 116, 117, 118, 119, 120, 121, 122, 123, 124, 125, 126, 127, 128, 129, 130, 131, 132, 133, 134, 135, 136, 137, 138, 139, 140, 141, 142, 143, 144, 145, 146, 147, 148, 149, 150, 151, 152, 153, 154, 155, 156, 157, 158, 159, 160, 161, 162, 163, 164, 165, 166, 167, 168, 169, 170, 171, 172, 173, 174, 175, 176, 177, 178, 179, 180, 181, 182, 183, 184, 185, 186, 187, 188, 189, 190, 191, 192, 193, 194, 195, 196, 197, 198, 199, 200, 201, 202, 203] (by decide +kernel) (by decide +kernel)
set_option maxRecDepth 20000 in
theorem gX13_canBeSet_X13_isDone : GoodIn wsX13_canBeSet (wsV RX13 458 RX13 yX13_isDone wsX13_isDone) := goodIn_app (goodIn_of _ (by decide +kernel)) ggX13_canBeSet_X13_isDone
set_option maxRecDepth 20000 in
theorem ggX13_canBeSet_X13_asks : GoodIn wsX13_canBeSet wsX13_asks := goodIn_r _ [21, 22, 11, 23, 2, 24, 3, 25, 26, 5, 27, 12, 13, 14, 9, 15, 16, 17, 28, 29, 30, 31, 32, 33, 34, 35, 36, 37, 38, 39, 40, 41, 42, 43, 44, 45, 46, 47, 48, 49, 50, 51, 52, 53, 54, 55, 56, 57, 58, 59, 60, 61, 62, 63, 64, 65, 66, 67, 68, 69, 70, 71, 72, 73, 74, 75, 76, 77, 78, 79, 80, 81, 82, 83, 84, 85, 86, 87, 88, 89, 90, 91, 92, 93, 94, 95, 96, 97, 98, 99, 4, 6, 7, 8, 10, 100, 101, 102, 103, 104, 105, 106, 107, 108, 109, 110, 111, 112, 113, 114, 115, 116, 117, 118, 119, 120, 121, 122, 123, 124, 125, 126, 127, 128, 129, 130, 131, 132, 133, 134, 135, 136, 137, 138, 139, 140, 141, 142, 143, 144, 145, 146, 147, 148, 149, 150, 151, 152, 153, 154, 155, 156, 157, 158, 159, 160, 161, 162, 163, 164, 165, 166, 167, 168, 169, 170, 171, 172, 173, 174, 175, 176, 177, 178, 179, 180, 181, 182, 183, 184, 185, 186, 187, 188, 189, 190, 191, 192, 193, 194, 195, 196, 197, 198, 199, 200, 201, 202, 203] (by decide +kernel) (by decide +kernel)
set_option maxRecDepth 20000 in
theorem gX13_canBeSet_X13_asks : GoodIn wsX13_canBeSet (wsV RX13 470 RX13 yX13_asks wsX13_asks) := goodIn_app (goodIn_of _ (by decide +kernel)) ggX13_canBeSet_X13_asks
set_option maxRecDepth 20000 in
theorem ggX13_canBeSet_X13_tells : GoodIn wsX13_canBeSet wsX13_tells := goodIn_r _ [55, 56, 57, 58, 9, 59, 60, 61, 62, 63, 64, 65, 66, 67, 68, 69, 70, 71, 72, 73, 74, 75, 22, 76, 77, 78, 79, 80, 81, 82, 83, 84, 85, 100, 101, 102, 103, 104, 105, 106, 107, 108, 109, 110, 111, 112, 113, 114, 115, 116, 117, 118, 119, 120, 121, 122, 123, 124, 125, 126, 127, 128, 129, 130, 131, 132, 133, 134, 135, 136, 137, 138, 139, 140, 141, 142, 143, 144, 145, 146, 147, 148, 149, 150, 151, 152, 153, 154, 155, 156, 157, 158, 159, 160, 161, 162, 163, 164, 165, 166, 167, 168, 169, 170, 171, 172, 173, 174, 175, 176, 177, 178, 179, 180, 181, 182, 183, 184, 185, 186, 187, 188, 189, 190, 191, 192, 193, 194, 195, 196, 197, 198, 199, 200, 201, 202, 203] (by decide +kernel) (by decide +kernel)
set_option maxRecDepth 20000 in
theorem gX13_canBeSet_X13_tells : GoodIn wsX13_canBeSet (wsV RX13 404 RX13 yX13_tells wsX13_tells) := goodIn_app (goodIn_of _ (by decide +kernel)) ggX13_canBeSet_X13_tells
theorem dX13_canBeSet_0 : decode cX13_canBeSet 0 = .ok (.iconst 0, 1) := by decide +kernel
theorem dX13_canBeSet_1 : decode cX13_canBeSet 1 = .ok (.istore_n 3, 1) := by decide +kernel
theorem dX13_canBeSet_2 : decode cX13_canBeSet 2 = .ok (.iload_n 3, 1) := by decide +kernel
theorem dX13_canBeSet_3 : decode cX13_canBeSet 3 = .ok (.iload_n 2, 1) := by decide +kernel
theorem dX13_canBeSet_4 : decode cX13_canBeSet 4 = .ok (.if_icmp .ge 79, 3) := by decide +kernel
theorem dX13_canBeSet_7 : decode cX13_canBeSet 7 = .ok (.aload_n 0, 1) := by decide +kernel
theorem dX13_canBeSet_8 : decode cX13_canBeSet 8 = .ok (.getfield 210, 3) := by decide +kernel
theorem dX13_canBeSet_11 : decode cX13_canBeSet 11 = .ok (.iload_n 3, 1) := by decide +kernel
theorem dX13_canBeSet_12 : decode cX13_canBeSet 12 = .ok (.iaload, 1) := by decide +kernel
theorem dX13_canBeSet_13 : decode cX13_canBeSet 13 = .ok (.istore 4, 2) := by decide +kernel
theorem dX13_canBeSet_15 : decode cX13_canBeSet 15 = .ok (.aload_n 0, 1) := by decide +kernel
theorem dX13_canBeSet_16 : decode cX13_canBeSet 16 = .ok (.getfield 90, 3) := by decide +kernel
theorem dX13_canBeSet_19 : decode cX13_canBeSet 19 = .ok (.iload 4, 2) := by decide +kernel
theorem dX13_canBeSet_21 : decode cX13_canBeSet 21 = .ok (.iaload, 1) := by decide +kernel
theorem dX13_canBeSet_22 : decode cX13_canBeSet 22 = .ok (.ifCond .ne 55, 3) := by decide +kernel
theorem dX13_canBeSet_25 : decode cX13_canBeSet 25 = .ok (.aload_n 0, 1) := by decide +kernel
theorem dX13_canBeSet_26 : decode cX13_canBeSet 26 = .ok (.getfield 108, 3) := by decide +kernel
theorem dX13_canBeSet_29 : decode cX13_canBeSet 29 = .ok (.iload 4, 2) := by decide +kernel
theorem dX13_canBeSet_31 : decode cX13_canBeSet 31 = .ok (.baload, 1) := by decide +kernel
theorem dX13_canBeSet_32 : decode cX13_canBeSet 32 = .ok (.ifCond .eq 6, 3) := by decide +kernel
theorem dX13_canBeSet_35 : decode cX13_canBeSet 35 = .ok (.goto 42, 3) := by decide +kernel
theorem dX13_canBeSet_38 : decode cX13_canBeSet 38 = .ok (.aload_n 0, 1) := by decide +kernel
theorem dX13_canBeSet_39 : decode cX13_canBeSet 39 = .ok (.iload 4, 2) := by decide +kernel
theorem dX13_canBeSet_41 : decode cX13_canBeSet 41 = .ok (.invokevirtual 458, 3) := by decide +kernel
theorem dX13_canBeSet_44 : decode cX13_canBeSet 44 = .ok (.ifCond .ne 5, 3) := by decide +kernel
theorem dX13_canBeSet_47 : decode cX13_canBeSet 47 = .ok (.iconst 0, 1) := by decide +kernel
theorem dX13_canBeSet_48 : decode cX13_canBeSet 48 = .ok (.ireturn, 1) := by decide +kernel
theorem dX13_canBeSet_49 : decode cX13_canBeSet 49 = .ok (.aload_n 0, 1) := by decide +kernel
theorem dX13_canBeSet_50 : decode cX13_canBeSet 50 = .ok (.iload 4, 2) := by decide +kernel
theorem dX13_canBeSet_52 : decode cX13_canBeSet 52 = .ok (.aload_n 0, 1) := by decide +kernel
theorem dX13_canBeSet_53 : decode cX13_canBeSet 53 = .ok (.getfield 105, 3) := by decide +kernel
theorem dX13_canBeSet_56 : decode cX13_canBeSet 56 = .ok (.iload 4, 2) := by decide +kernel
theorem dX13_canBeSet_58 : decode cX13_canBeSet 58 = .ok (.iaload, 1) := by decide +kernel
theorem dX13_canBeSet_59 : decode cX13_canBeSet 59 = .ok (.invokevirtual 470, 3) := by decide +kernel
theorem dX13_canBeSet_62 : decode cX13_canBeSet 62 = .ok (.aload_n 0, 1) := by decide +kernel
theorem dX13_canBeSet_63 : decode cX13_canBeSet 63 = .ok (.iconst 3, 1) := by decide +kernel
theorem dX13_canBeSet_64 : decode cX13_canBeSet 64 = .ok (.iload_n 1, 1) := by decide +kernel
theorem dX13_canBeSet_65 : decode cX13_canBeSet 65 = .ok (.aload_n 0, 1) := by decide +kernel
theorem dX13_canBeSet_66 : decode cX13_canBeSet 66 = .ok (.getfield 383, 3) := by decide +kernel
theorem dX13_canBeSet_69 : decode cX13_canBeSet 69 = .ok (.invokevirtual 404, 3) := by decide +kernel
theorem dX13_canBeSet_72 : decode cX13_canBeSet 72 = .ok (.ifCond .ne 5, 3) := by decide +kernel
theorem dX13_canBeSet_75 : decode cX13_canBeSet 75 = .ok (.iconst 0, 1) := by decide +kernel
theorem dX13_canBeSet_76 : decode cX13_canBeSet 76 = .ok (.ireturn, 1) := by decide +kernel
theorem dX13_canBeSet_77 : decode cX13_canBeSet 77 = .ok (.iinc 3 1, 3) := by decide +kernel
theorem dX13_canBeSet_80 : decode cX13_canBeSet 80 = .ok (.goto (-78), 3) := by decide +kernel
theorem dX13_canBeSet_83 : decode cX13_canBeSet 83 = .ok (.iconst 1, 1) := by decide +kernel
theorem dX13_canBeSet_84 : decode cX13_canBeSet 84 = .ok (.ireturn, 1) := by decide +kernel
set_option maxRecDepth 20000 in
theorem ggX13_set_X13_isVolume : GoodIn wsX13_set wsX13_isVolume := goodIn_r _ [19, 20, 21, 18, 22] (by decide +kernel) (by decide +kernel)
set_option maxRecDepth 20000 in
theorem gX13_set_X13_isVolume : GoodIn wsX13_set (va_wsS RX13 377 yX13_isVolume wsX13_isVolume) := goodIn_app (goodIn_of _ (by decide +kernel)) ggX13_set_X13_isVolume
set_option maxRecDepth 20000 in
theorem ggX13_set_X13_orders : GoodIn wsX13_set wsX13_orders := goodIn_r _ [26, 1, 14, 2, 3, 27, 28, 29, 30, 18, 31, 4, 32, 33, 34, 35, 36, 37, 13, 38, 39, 40, 41, 42, 43, 44, 45, 46, 47, 48, 49, 50, 51, 52, 53, 54, 55, 56, 57, 58, 59, 60, 61, 62, 63, 64, 65, 66, 67, 68, 69, 70, 71, 72, 73, 74, 75, 76, 77, 78, 79, 80, 81, 82, 83, 84, 85, 86, 87, 88, 89, 90, 91, 92, 93, 94, 95, 96, 97, 98, 130, 131, 132, 133, 134, 135, 136, 137, 138, 139, 140, 141, 142, 143, 144, 145, 146, 147, 148, 149, 150, 151, 152, 153, 154, 155, 156, 157, 158, 159, 160, 161, 162, 163, 164, 165, 166, 167, 168, 169, 170, 171, 172, 173, 174, 175, 176, 177, 178, 179, 180, 181, 182, 183, 184, 185, 186, 187, 188, 189, 190, 191, 192, 193, 194, 195, 196, 197, 198, 199, 200, 201, 202, 203, 204, 205, 206, 207, 208, 209, 210, 211, 212, 213, 214, 215, 216, 217, 218, 219, 220, 221, 222, 223, 224, 225, 226, 227, 228, 229, 230, 231, 232, 233] (by decide +kernel) (by decide +kernel)
set_option maxRecDepth 20000 in
theorem gX13_set_X13_orders : GoodIn wsX13_set (wsV RX13 442 RX13 yX13_orders wsX13_orders) := goodIn_app (goodIn_of _ (by decide +kernel)) ggX13_set_X13_orders
set_option maxRecDepth 20000 in
theorem ggX13_set_X13_canBeSet : GoodIn wsX13_set wsX13_canBeSet := goodIn_r _ [102, 2, 7, 5, 103, 13, 104, 105, 106, 18, 107, 108, 109, 110, 111, 112, 8, 9, 113, 114, 115, 116, 69, 27, 117, 118, 119, 120, 121, 122, 123, 124, 125, 28, 29, 30, 31, 4, 32, 1, 33, 34, 35, 36, 37, 38, 39, 40, 41, 42, 43, 44, 45, 46, 47, 48, 49, 50, 51, 52, 53, 54, 55, 56, 57, 58, 59, 60, 61, 62, 63, 64, 65, 66, 67, 68, 70, 71, 72, 73, 74, 75, 76, 77, 78, 79, 80, 81, 82, 83, 84, 85, 86, 87, 88, 89, 126, 127, 128, 129, 130, 131, 132, 133, 134, 135, 136, 137, 138, 139, 140, 141, 142, 143, 144, 145, 146, 147, 148, 149, 150, 151, 152, 153, 154, 155, 156, 157, 158, 159, 160, 161, 162, 163, 164, 165, 166, 167, 168, 169, 170, 171, 172, 173, 174, 175, 176, 177, 178, 179, 180, 181, 182, 183, 184, 185, 186, 187, 188, 189, 190, 191, 192, 193, 194, 195, 196, 197, 198, 199, 200, 201, 202, 203, 204, 205, 206, 207, 208, 209, 210, 211, 212, 213, 214, 215, 216, 217, 218, 219, 220, 221, 222, 223, 224, 225, 226, 227, 228, 229, 230, 231, 232, 233] (by decide +kernel) (by decide +kernel)
set_option maxRecDepth 20000 in
theorem gX13_set_X13_canBeSet : GoodIn wsX13_set (wsV RX13 506 RX13 yX13_canBeSet wsX13_canBeSet) := goodIn_app (goodIn_of _ (by decide +kernel)) ggX13_set_X13_canBeSet
theorem dX13_set_0 : decode cX13_set 0 = .ok (.iload_n 1, 1) := by decide +kernel
theorem dX13_set_1 : decode cX13_set 1 = .ok (.invokestatic 377, 3) := by decide +kernel
theorem dX13_set_4 : decode cX13_set 4 = .ok (.ifCond .eq 12, 3) := by decide +kernel
theorem dX13_set_7 : decode cX13_set 7 = .ok (.aload_n 0, 1) := by decide +kernel
theorem dX13_set_8 : decode cX13_set 8 = .ok (.getfield 68, 3) := by decide +kernel
theorem dX13_set_11 : decode cX13_set 11 = .ok (.iload_n 1, 1) := by decide +kernel
theorem dX13_set_12 : decode cX13_set 12 = .ok (.baload, 1) := by decide +kernel
theorem dX13_set_13 : decode cX13_set 13 = .ok (.ifCond .eq 5, 3) := by decide +kernel
theorem dX13_set_16 : decode cX13_set 16 = .ok (.iconst (-1), 1) := by decide +kernel
theorem dX13_set_17 : decode cX13_set 17 = .ok (.ireturn, 1) := by decide +kernel
theorem dX13_set_18 : decode cX13_set 18 = .ok (.aload_n 0, 1) := by decide +kernel
theorem dX13_set_19 : decode cX13_set 19 = .ok (.iload_n 1, 1) := by decide +kernel
theorem dX13_set_20 : decode cX13_set 20 = .ok (.invokevirtual 442, 3) := by decide +kernel
theorem dX13_set_23 : decode cX13_set 23 = .ok (.istore_n 2, 1) := by decide +kernel
theorem dX13_set_24 : decode cX13_set 24 = .ok (.aload_n 0, 1) := by decide +kernel
theorem dX13_set_25 : decode cX13_set 25 = .ok (.iload_n 1, 1) := by decide +kernel
theorem dX13_set_26 : decode cX13_set 26 = .ok (.iload_n 2, 1) := by decide +kernel
theorem dX13_set_27 : decode cX13_set 27 = .ok (.invokevirtual 506, 3) := by decide +kernel
theorem dX13_set_30 : decode cX13_set 30 = .ok (.ifCond .ne 5, 3) := by decide +kernel
theorem dX13_set_33 : decode cX13_set 33 = .ok (.iconst (-1), 1) := by decide +kernel
theorem dX13_set_34 : decode cX13_set 34 = .ok (.ireturn, 1) := by decide +kernel
theorem dX13_set_35 : decode cX13_set 35 = .ok (.iconst 0, 1) := by decide +kernel
theorem dX13_set_36 : decode cX13_set 36 = .ok (.istore_n 3, 1) := by decide +kernel
theorem dX13_set_37 : decode cX13_set 37 = .ok (.iconst 0, 1) := by decide +kernel
theorem dX13_set_38 : decode cX13_set 38 = .ok (.istore 4, 2) := by decide +kernel
theorem dX13_set_40 : decode cX13_set 40 = .ok (.iconst 0, 1) := by decide +kernel
theorem dX13_set_41 : decode cX13_set 41 = .ok (.istore 5, 2) := by decide +kernel
theorem dX13_set_43 : decode cX13_set 43 = .ok (.iload 5, 2) := by decide +kernel
theorem dX13_set_45 : decode cX13_set 45 = .ok (.iload_n 2, 1) := by decide +kernel
theorem dX13_set_46 : decode cX13_set 46 = .ok (.if_icmp .ge 160, 3) := by decide +kernel
theorem dX13_set_49 : decode cX13_set 49 = .ok (.aload_n 0, 1) := by decide +kernel
theorem dX13_set_50 : decode cX13_set 50 = .ok (.getfield 210, 3) := by decide +kernel
theorem dX13_set_53 : decode cX13_set 53 = .ok (.iload 5, 2) := by decide +kernel
theorem dX13_set_55 : decode cX13_set 55 = .ok (.iaload, 1) := by decide +kernel
theorem dX13_set_56 : decode cX13_set 56 = .ok (.istore 6, 2) := by decide +kernel
theorem dX13_set_58 : decode cX13_set 58 = .ok (.aload_n 0, 1) := by decide +kernel
theorem dX13_set_59 : decode cX13_set 59 = .ok (.getfield 78, 3) := by decide +kernel
theorem dX13_set_62 : decode cX13_set 62 = .ok (.bipush 60, 2) := by decide +kernel
theorem dX13_set_64 : decode cX13_set 64 = .ok (.iload_n 1, 1) := by decide +kernel
theorem dX13_set_65 : decode cX13_set 65 = .ok (.imul, 1) := by decide +kernel
theorem dX13_set_66 : decode cX13_set 66 = .ok (.iload 5, 2) := by decide +kernel
theorem dX13_set_68 : decode cX13_set 68 = .ok (.iadd, 1) := by decide +kernel
theorem dX13_set_69 : decode cX13_set 69 = .ok (.iload 6, 2) := by decide +kernel
theorem dX13_set_71 : decode cX13_set 71 = .ok (.iastore, 1) := by decide +kernel
theorem dX13_set_72 : decode cX13_set 72 = .ok (.aload_n 0, 1) := by decide +kernel
theorem dX13_set_73 : decode cX13_set 73 = .ok (.getfield 114, 3) := by decide +kernel
theorem dX13_set_76 : decode cX13_set 76 = .ok (.iload 6, 2) := by decide +kernel
theorem dX13_set_78 : decode cX13_set 78 = .ok (.iload_n 1, 1) := by decide +kernel
theorem dX13_set_79 : decode cX13_set 79 = .ok (.iastore, 1) := by decide +kernel
theorem dX13_set_80 : decode cX13_set 80 = .ok (.aload_n 0, 1) := by decide +kernel
theorem dX13_set_81 : decode cX13_set 81 = .ok (.getfield 108, 3) := by decide +kernel
theorem dX13_set_84 : decode cX13_set 84 = .ok (.iload 6, 2) := by decide +kernel
theorem dX13_set_86 : decode cX13_set 86 = .ok (.baload, 1) := by decide +kernel
theorem dX13_set_87 : decode cX13_set 87 = .ok (.ifCond .eq 6, 3) := by decide +kernel
theorem dX13_set_90 : decode cX13_set 90 = .ok (.goto 110, 3) := by decide +kernel
theorem dX13_set_93 : decode cX13_set 93 = .ok (.aload_n 0, 1) := by decide +kernel
theorem dX13_set_94 : decode cX13_set 94 = .ok (.getfield 117, 3) := by decide +kernel
theorem dX13_set_97 : decode cX13_set 97 = .ok (.iload 6, 2) := by decide +kernel
theorem dX13_set_99 : decode cX13_set 99 = .ok (.iconst 1, 1) := by decide +kernel
theorem dX13_set_100 : decode cX13_set 100 = .ok (.iload_n 3, 1) := by decide +kernel
theorem dX13_set_101 : decode cX13_set 101 = .ok (.bipush 40, 2) := by decide +kernel
theorem dX13_set_103 : decode cX13_set 103 = .ok (.idiv, 1) := by decide +kernel
theorem dX13_set_104 : decode cX13_set 104 = .ok (.iadd, 1) := by decide +kernel
theorem dX13_set_105 : decode cX13_set 105 = .ok (.iastore, 1) := by decide +kernel
theorem dX13_set_106 : decode cX13_set 106 = .ok (.aload_n 0, 1) := by decide +kernel
theorem dX13_set_107 : decode cX13_set 107 = .ok (.getfield 90, 3) := by decide +kernel
theorem dX13_set_110 : decode cX13_set 110 = .ok (.iload 6, 2) := by decide +kernel
theorem dX13_set_112 : decode cX13_set 112 = .ok (.iaload, 1) := by decide +kernel
theorem dX13_set_113 : decode cX13_set 113 = .ok (.ifCond .eq 26, 3) := by decide +kernel
theorem dX13_set_116 : decode cX13_set 116 = .ok (.iload_n 3, 1) := by decide +kernel
theorem dX13_set_117 : decode cX13_set 117 = .ok (.aload_n 0, 1) := by decide +kernel
theorem dX13_set_118 : decode cX13_set 118 = .ok (.getfield 90, 3) := by decide +kernel
theorem dX13_set_121 : decode cX13_set 121 = .ok (.iload 6, 2) := by decide +kernel
theorem dX13_set_123 : decode cX13_set 123 = .ok (.iaload, 1) := by decide +kernel
theorem dX13_set_124 : decode cX13_set 124 = .ok (.iconst 1, 1) := by decide +kernel
theorem dX13_set_125 : decode cX13_set 125 = .ok (.if_icmp .ne 7, 3) := by decide +kernel
theorem dX13_set_128 : decode cX13_set 128 = .ok (.iconst 1, 1) := by decide +kernel
theorem dX13_set_129 : decode cX13_set 129 = .ok (.goto 5, 3) := by decide +kernel
theorem dX13_set_132 : decode cX13_set 132 = .ok (.bipush 10, 2) := by decide +kernel
theorem dX13_set_134 : decode cX13_set 134 = .ok (.iadd, 1) := by decide +kernel
theorem dX13_set_135 : decode cX13_set 135 = .ok (.istore_n 3, 1) := by decide +kernel
theorem dX13_set_136 : decode cX13_set 136 = .ok (.goto 64, 3) := by decide +kernel
theorem dX13_set_139 : decode cX13_set 139 = .ok (.iconst 0, 1) := by decide +kernel
theorem dX13_set_140 : decode cX13_set 140 = .ok (.istore 7, 2) := by decide +kernel
theorem dX13_set_142 : decode cX13_set 142 = .ok (.iload 7, 2) := by decide +kernel
theorem dX13_set_144 : decode cX13_set 144 = .ok (.aload_n 0, 1) := by decide +kernel
theorem dX13_set_145 : decode cX13_set 145 = .ok (.getfield 452, 3) := by decide +kernel
theorem dX13_set_148 : decode cX13_set 148 = .ok (.if_icmp .ge 52, 3) := by decide +kernel
theorem dX13_set_151 : decode cX13_set 151 = .ok (.aload_n 0, 1) := by decide +kernel
theorem dX13_set_152 : decode cX13_set 152 = .ok (.getfield 135, 3) := by decide +kernel
theorem dX13_set_155 : decode cX13_set 155 = .ok (.iload 7, 2) := by decide +kernel
theorem dX13_set_157 : decode cX13_set 157 = .ok (.iaload, 1) := by decide +kernel
theorem dX13_set_158 : decode cX13_set 158 = .ok (.iload 6, 2) := by decide +kernel
theorem dX13_set_160 : decode cX13_set 160 = .ok (.if_icmp .eq 6, 3) := by decide +kernel
theorem dX13_set_163 : decode cX13_set 163 = .ok (.goto 31, 3) := by decide +kernel
theorem dX13_set_166 : decode cX13_set 166 = .ok (.aload_n 0, 1) := by decide +kernel
theorem dX13_set_167 : decode cX13_set 167 = .ok (.getfield 156, 3) := by decide +kernel
theorem dX13_set_170 : decode cX13_set 170 = .ok (.iload 7, 2) := by decide +kernel
theorem dX13_set_172 : decode cX13_set 172 = .ok (.iconst 1, 1) := by decide +kernel
theorem dX13_set_173 : decode cX13_set 173 = .ok (.iload_n 3, 1) := by decide +kernel
theorem dX13_set_174 : decode cX13_set 174 = .ok (.bipush 40, 2) := by decide +kernel
theorem dX13_set_176 : decode cX13_set 176 = .ok (.idiv, 1) := by decide +kernel
theorem dX13_set_177 : decode cX13_set 177 = .ok (.iadd, 1) := by decide +kernel
theorem dX13_set_178 : decode cX13_set 178 = .ok (.iastore, 1) := by decide +kernel
theorem dX13_set_179 : decode cX13_set 179 = .ok (.aload_n 0, 1) := by decide +kernel
theorem dX13_set_180 : decode cX13_set 180 = .ok (.getfield 159, 3) := by decide +kernel
theorem dX13_set_183 : decode cX13_set 183 = .ok (.iload 7, 2) := by decide +kernel
theorem dX13_set_185 : decode cX13_set 185 = .ok (.iload 4, 2) := by decide +kernel
theorem dX13_set_187 : decode cX13_set 187 = .ok (.iastore, 1) := by decide +kernel
theorem dX13_set_188 : decode cX13_set 188 = .ok (.iinc 4 1, 3) := by decide +kernel
theorem dX13_set_191 : decode cX13_set 191 = .ok (.iinc 3 1, 3) := by decide +kernel
theorem dX13_set_194 : decode cX13_set 194 = .ok (.iinc 7 1, 3) := by decide +kernel
theorem dX13_set_197 : decode cX13_set 197 = .ok (.goto (-55), 3) := by decide +kernel
theorem dX13_set_200 : decode cX13_set 200 = .ok (.iinc 5 1, 3) := by decide +kernel
theorem dX13_set_203 : decode cX13_set 203 = .ok (.goto (-160), 3) := by decide +kernel
theorem dX13_set_206 : decode cX13_set 206 = .ok (.aload_n 0, 1) := by decide +kernel
theorem dX13_set_207 : decode cX13_set 207 = .ok (.getfield 68, 3) := by decide +kernel
theorem dX13_set_210 : decode cX13_set 210 = .ok (.iload_n 1, 1) := by decide +kernel
theorem dX13_set_211 : decode cX13_set 211 = .ok (.iconst 1, 1) := by decide +kernel
theorem dX13_set_212 : decode cX13_set 212 = .ok (.bastore, 1) := by decide +kernel
theorem dX13_set_213 : decode cX13_set 213 = .ok (.aload_n 0, 1) := by decide +kernel
theorem dX13_set_214 : decode cX13_set 214 = .ok (.getfield 72, 3) := by decide +kernel
theorem dX13_set_217 : decode cX13_set 217 = .ok (.iload_n 1, 1) := by decide +kernel
theorem dX13_set_218 : decode cX13_set 218 = .ok (.aload_n 0, 1) := by decide +kernel
theorem dX13_set_219 : decode cX13_set 219 = .ok (.getfield 383, 3) := by decide +kernel
theorem dX13_set_222 : decode cX13_set 222 = .ok (.iastore, 1) := by decide +kernel
theorem dX13_set_223 : decode cX13_set 223 = .ok (.aload_n 0, 1) := by decide +kernel
theorem dX13_set_224 : decode cX13_set 224 = .ok (.getfield 75, 3) := by decide +kernel
theorem dX13_set_227 : decode cX13_set 227 = .ok (.iload_n 1, 1) := by decide +kernel
theorem dX13_set_228 : decode cX13_set 228 = .ok (.iload_n 2, 1) := by decide +kernel
theorem dX13_set_229 : decode cX13_set 229 = .ok (.iastore, 1) := by decide +kernel
theorem dX13_set_230 : decode cX13_set 230 = .ok (.aload_n 0, 1) := by decide +kernel
theorem dX13_set_231 : decode cX13_set 231 = .ok (.getfield 81, 3) := by decide +kernel
theorem dX13_set_234 : decode cX13_set 234 = .ok (.iload_n 1, 1) := by decide +kernel
theorem dX13_set_235 : decode cX13_set 235 = .ok (.iload_n 3, 1) := by decide +kernel
theorem dX13_set_236 : decode cX13_set 236 = .ok (.iastore, 1) := by decide +kernel
theorem dX13_set_237 : decode cX13_set 237 = .ok (.iload_n 3, 1) := by decide +kernel
theorem dX13_set_238 : decode cX13_set 238 = .ok (.bipush 40, 2) := by decide +kernel
theorem dX13_set_240 : decode cX13_set 240 = .ok (.iadd, 1) := by decide +kernel
theorem dX13_set_241 : decode cX13_set 241 = .ok (.iconst 1, 1) := by decide +kernel
theorem dX13_set_242 : decode cX13_set 242 = .ok (.isub, 1) := by decide +kernel
theorem dX13_set_243 : decode cX13_set 243 = .ok (.bipush 40, 2) := by decide +kernel
theorem dX13_set_245 : decode cX13_set 245 = .ok (.idiv, 1) := by decide +kernel
theorem dX13_set_246 : decode cX13_set 246 = .ok (.ireturn, 1) := by decide +kernel
set_option maxRecDepth 20000 in
theorem ggX13_page_X13_isEntry : GoodIn wsX13_page wsX13_isEntry := goodIn_r _ [6, 7, 8, 9, 5, 10, 11, 12, 13, 14, 15, 16, 17, 18, 19, 20, 21, 22, 23, 24, 25, 26, 27, 28, 29, 30, 31, 32, 33, 34, 35, 36, 37, 38, 39, 40, 41, 42, 43, 44, 45, 46, 47, 48, 49, 50, 51, 52, 53, 54, 55, 56, 57, 58, 59, 60, 61, 62, 63, 64, 65, 66, 67, 68, 69, 70, 71, 72, 73, 74, 75, 76, 77, 78, 79, 80, 81, 82, 83, 84, 85, 86, 87, 88, 89, 90, 91, 92, 93, 94, 95, 96, 97, 98, 99, 100, 101, 102, 103, 104, 105, 106, 107, 108, 109, 110, 111, 112, 113, 114] (by decide +kernel) (by decide +kernel)
set_option maxRecDepth 20000 in
theorem gX13_page_X13_isEntry : GoodIn wsX13_page (wsV RX13 421 RX13 yX13_isEntry wsX13_isEntry) := goodIn_app (goodIn_of _ (by decide +kernel)) ggX13_page_X13_isEntry
theorem dX13_page_0 : decode cX13_page 0 = .ok (.aload_n 0, 1) := by decide +kernel
theorem dX13_page_1 : decode cX13_page 1 = .ok (.iload_n 1, 1) := by decide +kernel
theorem dX13_page_2 : decode cX13_page 2 = .ok (.invokevirtual 421, 3) := by decide +kernel
theorem dX13_page_5 : decode cX13_page 5 = .ok (.ifCond .eq 12, 3) := by decide +kernel
theorem dX13_page_8 : decode cX13_page 8 = .ok (.aload_n 0, 1) := by decide +kernel
theorem dX13_page_9 : decode cX13_page 9 = .ok (.getfield 117, 3) := by decide +kernel
theorem dX13_page_12 : decode cX13_page 12 = .ok (.iload_n 1, 1) := by decide +kernel
theorem dX13_page_13 : decode cX13_page 13 = .ok (.iaload, 1) := by decide +kernel
theorem dX13_page_14 : decode cX13_page 14 = .ok (.goto 4, 3) := by decide +kernel
theorem dX13_page_17 : decode cX13_page 17 = .ok (.iconst (-1), 1) := by decide +kernel
theorem dX13_page_18 : decode cX13_page 18 = .ok (.ireturn, 1) := by decide +kernel
set_option maxRecDepth 20000 in
theorem ggX13_isGone_X13_volumeOf : GoodIn wsX13_isGone wsX13_volumeOf := goodIn_r _ [6, 7, 8, 9, 10, 11, 12, 5, 13, 14, 15, 16, 17, 18, 19, 20, 21, 22, 23, 24, 25, 26, 27, 28, 29, 30, 31, 32, 33, 34, 35, 36, 37, 38, 39, 40, 41, 42, 43, 44, 45, 46, 47, 48, 49, 50, 51, 52, 53, 54, 55, 56, 57, 58, 59, 60, 61, 62, 63, 64, 65, 66, 67, 68, 69, 70, 71, 72, 73, 74, 75, 76, 77, 78, 79, 80, 81, 82, 83, 84, 85, 86, 87, 88, 89, 90, 91, 92, 93, 94, 95, 96, 97, 98, 99, 100, 101, 102, 103, 104, 105, 106, 107, 108, 109, 110, 111, 112, 113, 114, 115, 116, 117, 118, 119, 120, 121, 122, 123, 124, 125, 126, 127, 128, 129, 130, 131, 132, 133, 134, 135, 136, 137, 138, 139, 140, 141, 142, 143, 144, 145, 146, 147, 148, 149, 150, 151, 152, 153, 154, 155, 156, 157, 158, 159, 160, 161, 162, 163, 164, 165, 166, 167, 168, 169, 170, 171] (by decide +kernel) (by decide +kernel)
set_option maxRecDepth 20000 in
theorem gX13_isGone_X13_volumeOf : GoodIn wsX13_isGone (wsV RX13 433 RX13 yX13_volumeOf wsX13_volumeOf) := goodIn_app (goodIn_of _ (by decide +kernel)) ggX13_isGone_X13_volumeOf
theorem dX13_isGone_0 : decode cX13_isGone 0 = .ok (.aload_n 0, 1) := by decide +kernel
theorem dX13_isGone_1 : decode cX13_isGone 1 = .ok (.getfield 108, 3) := by decide +kernel
theorem dX13_isGone_4 : decode cX13_isGone 4 = .ok (.iload_n 1, 1) := by decide +kernel
theorem dX13_isGone_5 : decode cX13_isGone 5 = .ok (.baload, 1) := by decide +kernel
theorem dX13_isGone_6 : decode cX13_isGone 6 = .ok (.ifCond .ne 13, 3) := by decide +kernel
theorem dX13_isGone_9 : decode cX13_isGone 9 = .ok (.aload_n 0, 1) := by decide +kernel
theorem dX13_isGone_10 : decode cX13_isGone 10 = .ok (.iload_n 1, 1) := by decide +kernel
theorem dX13_isGone_11 : decode cX13_isGone 11 = .ok (.invokevirtual 433, 3) := by decide +kernel
theorem dX13_isGone_14 : decode cX13_isGone 14 = .ok (.bipush 6, 2) := by decide +kernel
theorem dX13_isGone_16 : decode cX13_isGone 16 = .ok (.if_icmp .ne 7, 3) := by decide +kernel
theorem dX13_isGone_19 : decode cX13_isGone 19 = .ok (.iconst 1, 1) := by decide +kernel
theorem dX13_isGone_20 : decode cX13_isGone 20 = .ok (.goto 4, 3) := by decide +kernel
theorem dX13_isGone_23 : decode cX13_isGone 23 = .ok (.iconst 0, 1) := by decide +kernel
theorem dX13_isGone_24 : decode cX13_isGone 24 = .ok (.ireturn, 1) := by decide +kernel
theorem dX13_endOf_0 : decode cX13_endOf 0 = .ok (.iload_n 1, 1) := by decide +kernel
theorem dX13_endOf_1 : decode cX13_endOf 1 = .ok (.istore_n 2, 1) := by decide +kernel
theorem dX13_endOf_2 : decode cX13_endOf 2 = .ok (.iconst 0, 1) := by decide +kernel
theorem dX13_endOf_3 : decode cX13_endOf 3 = .ok (.istore_n 3, 1) := by decide +kernel
theorem dX13_endOf_4 : decode cX13_endOf 4 = .ok (.iload_n 3, 1) := by decide +kernel
theorem dX13_endOf_5 : decode cX13_endOf 5 = .ok (.aload_n 0, 1) := by decide +kernel
theorem dX13_endOf_6 : decode cX13_endOf 6 = .ok (.getfield 418, 3) := by decide +kernel
theorem dX13_endOf_9 : decode cX13_endOf 9 = .ok (.if_icmp .gt 28, 3) := by decide +kernel
theorem dX13_endOf_12 : decode cX13_endOf 12 = .ok (.aload_n 0, 1) := by decide +kernel
theorem dX13_endOf_13 : decode cX13_endOf 13 = .ok (.getfield 90, 3) := by decide +kernel
theorem dX13_endOf_16 : decode cX13_endOf 16 = .ok (.iload_n 2, 1) := by decide +kernel
theorem dX13_endOf_17 : decode cX13_endOf 17 = .ok (.iaload, 1) := by decide +kernel
theorem dX13_endOf_18 : decode cX13_endOf 18 = .ok (.iconst 1, 1) := by decide +kernel
theorem dX13_endOf_19 : decode cX13_endOf 19 = .ok (.if_icmp .eq 5, 3) := by decide +kernel
theorem dX13_endOf_22 : decode cX13_endOf 22 = .ok (.iload_n 2, 1) := by decide +kernel
theorem dX13_endOf_23 : decode cX13_endOf 23 = .ok (.ireturn, 1) := by decide +kernel
theorem dX13_endOf_24 : decode cX13_endOf 24 = .ok (.aload_n 0, 1) := by decide +kernel
theorem dX13_endOf_25 : decode cX13_endOf 25 = .ok (.getfield 102, 3) := by decide +kernel
theorem dX13_endOf_28 : decode cX13_endOf 28 = .ok (.iload_n 2, 1) := by decide +kernel
theorem dX13_endOf_29 : decode cX13_endOf 29 = .ok (.iaload, 1) := by decide +kernel
theorem dX13_endOf_30 : decode cX13_endOf 30 = .ok (.istore_n 2, 1) := by decide +kernel
theorem dX13_endOf_31 : decode cX13_endOf 31 = .ok (.iinc 3 1, 3) := by decide +kernel
theorem dX13_endOf_34 : decode cX13_endOf 34 = .ok (.goto (-30), 3) := by decide +kernel
theorem dX13_endOf_37 : decode cX13_endOf 37 = .ok (.iconst (-1), 1) := by decide +kernel
theorem dX13_endOf_38 : decode cX13_endOf 38 = .ok (.ireturn, 1) := by decide +kernel
set_option maxRecDepth 20000 in
theorem ggX13_ends_X13_isEntry : GoodIn wsX13_ends wsX13_isEntry := goodIn_r _ [6, 7, 8, 9, 5, 10, 16, 17, 18, 19, 20, 21, 22, 23, 24, 25, 26, 27, 28, 29, 30, 31, 32, 33, 34, 35, 36, 37, 38, 39, 40, 41, 42, 43, 44, 45, 46, 47, 48, 49, 50, 51, 52, 53, 54, 55, 56, 57, 58, 59, 60, 61, 62, 63, 64, 65, 66, 67, 68, 69, 70, 71, 72, 73, 74, 75, 76, 77, 78, 79, 80, 81, 82, 83, 84, 85, 86, 87, 88, 89, 90, 91, 92, 93, 94, 95, 96, 97, 98, 99, 100, 101, 102, 103, 104, 105, 106, 107, 108, 109, 110, 111, 112, 113, 114, 115, 116, 117, 118, 119] (by decide +kernel) (by decide +kernel)
set_option maxRecDepth 20000 in
theorem gX13_ends_X13_isEntry : GoodIn wsX13_ends (wsV RX13 421 RX13 yX13_isEntry wsX13_isEntry) := goodIn_app (goodIn_of _ (by decide +kernel)) ggX13_ends_X13_isEntry
set_option maxRecDepth 20000 in
theorem ggX13_ends_X13_endOf : GoodIn wsX13_ends wsX13_endOf := goodIn_r _ [14, 7, 1, 15, 16, 17, 18, 19, 20, 21, 22, 23, 24, 25, 26, 27, 28, 29, 30, 31, 32, 33, 34, 35, 36, 37, 38, 39, 40, 41, 42, 43, 44, 45, 46, 47, 48, 49, 50, 51, 52, 53, 54, 55, 56, 57, 58, 59, 60, 61, 62, 63, 64, 65, 66, 67, 68, 69, 70, 71, 72, 73, 74, 75, 76, 77, 78, 79, 80, 81, 82, 83, 84, 85, 86, 87, 88, 89, 90, 91, 92, 93, 94, 95, 96, 97, 98, 99, 100, 101, 102, 103, 104, 105, 106, 107, 108, 109, 110, 111, 112, 113, 114, 115, 116, 117, 118, 119] (by decide +kernel) (by decide +kernel)
set_option maxRecDepth 20000 in
theorem gX13_ends_X13_endOf : GoodIn wsX13_ends (wsV RX13 509 RX13 yX13_endOf wsX13_endOf) := goodIn_app (goodIn_of _ (by decide +kernel)) ggX13_ends_X13_endOf
theorem dX13_ends_0 : decode cX13_ends 0 = .ok (.aload_n 0, 1) := by decide +kernel
theorem dX13_ends_1 : decode cX13_ends 1 = .ok (.iload_n 1, 1) := by decide +kernel
theorem dX13_ends_2 : decode cX13_ends 2 = .ok (.invokevirtual 421, 3) := by decide +kernel
theorem dX13_ends_5 : decode cX13_ends 5 = .ok (.ifCond .eq 21, 3) := by decide +kernel
theorem dX13_ends_8 : decode cX13_ends 8 = .ok (.aload_n 0, 1) := by decide +kernel
theorem dX13_ends_9 : decode cX13_ends 9 = .ok (.getfield 90, 3) := by decide +kernel
theorem dX13_ends_12 : decode cX13_ends 12 = .ok (.iload_n 1, 1) := by decide +kernel
theorem dX13_ends_13 : decode cX13_ends 13 = .ok (.iaload, 1) := by decide +kernel
theorem dX13_ends_14 : decode cX13_ends 14 = .ok (.iconst 1, 1) := by decide +kernel
theorem dX13_ends_15 : decode cX13_ends 15 = .ok (.if_icmp .ne 11, 3) := by decide +kernel
theorem dX13_ends_18 : decode cX13_ends 18 = .ok (.aload_n 0, 1) := by decide +kernel
theorem dX13_ends_19 : decode cX13_ends 19 = .ok (.iload_n 1, 1) := by decide +kernel
theorem dX13_ends_20 : decode cX13_ends 20 = .ok (.invokevirtual 509, 3) := by decide +kernel
theorem dX13_ends_23 : decode cX13_ends 23 = .ok (.goto 4, 3) := by decide +kernel
theorem dX13_ends_26 : decode cX13_ends 26 = .ok (.iconst (-1), 1) := by decide +kernel
theorem dX13_ends_27 : decode cX13_ends 27 = .ok (.ireturn, 1) := by decide +kernel
set_option maxRecDepth 20000 in
theorem ggX13_promise_X13_isEntry : GoodIn wsX13_promise wsX13_isEntry := goodIn_r _ [8, 9, 10, 11, 7, 12, 86, 87, 88, 89, 90, 91, 92, 93, 94, 95, 96, 97, 98, 99, 100, 101, 102, 103, 104, 105, 106, 107, 108, 109, 110, 111, 112, 113, 114, 115, 116, 117, 118, 119, 120, 121, 122, 123, 124, 125, 126, 127, 128, 129, 130, 131, 132, 133, 134, 135, 136, 137, 138, 139, 140, 141, 142, 143, 144, 145, 146, 147, 148, 149, 150, 151, 152, 153, 154, 155, 156, 157, 158, 159, 160, 161, 162, 163, 164, 165, 166, 167, 168, 169, 170, 171, 172, 173, 174, 175, 176, 177, 178, 179, 180, 181, 182, 183, 184, 185, 186, 187, 188, 189] (by decide +kernel) (by decide +kernel)
set_option maxRecDepth 20000 in
theorem gX13_promise_X13_isEntry : GoodIn wsX13_promise (wsV RX13 421 RX13 yX13_isEntry wsX13_isEntry) := goodIn_app (goodIn_of _ (by decide +kernel)) ggX13_promise_X13_isEntry
set_option maxRecDepth 20000 in
theorem ggX13_promise_X13_isGone : GoodIn wsX13_promise wsX13_isGone := goodIn_r _ [16, 17, 18, 19, 20, 7, 21, 3, 22, 23, 24, 25, 26, 27, 28, 29, 30, 31, 32, 33, 34, 35, 36, 37, 38, 39, 40, 41, 42, 43, 44, 45, 46, 47, 48, 49, 50, 51, 52, 53, 54, 55, 56, 57, 58, 59, 60, 61, 62, 63, 64, 65, 66, 67, 68, 69, 70, 71, 72, 73, 74, 75, 76, 77, 78, 79, 80, 81, 86, 87, 88, 89, 90, 91, 92, 93, 94, 95, 96, 97, 98, 99, 100, 101, 102, 103, 104, 105, 106, 107, 108, 109, 110, 111, 112, 113, 114, 115, 116, 117, 118, 119, 120, 121, 122, 123, 124, 125, 126, 127, 128, 129, 130, 131, 132, 133, 134, 135, 136, 137, 138, 139, 140, 141, 142, 143, 144, 145, 146, 147, 148, 149, 150, 151, 152, 153, 154, 155, 156, 157, 158, 159, 160, 161, 162, 163, 164, 165, 166, 167, 168, 169, 170, 171, 172, 173, 174, 175, 176, 177, 178, 179, 180, 181, 182, 183, 184, 185, 186, 187, 188, 189] (by decide +kernel) (by decide +kernel)
set_option maxRecDepth 20000 in
theorem gX13_promise_X13_isGone : GoodIn wsX13_promise (wsV RX13 512 RX13 yX13_isGone wsX13_isGone) := goodIn_app (goodIn_of _ (by decide +kernel)) ggX13_promise_X13_isGone
set_option maxRecDepth 20000 in
theorem ggX13_promise_X13_endOf : GoodIn wsX13_promise wsX13_endOf := goodIn_r _ [85, 9, 1, 2, 86, 87, 88, 89, 90, 91, 92, 93, 94, 95, 96, 97, 98, 99, 100, 101, 102, 103, 104, 105, 106, 107, 108, 109, 110, 111, 112, 113, 114, 115, 116, 117, 118, 119, 120, 121, 122, 123, 124, 125, 126, 127, 128, 129, 130, 131, 132, 133, 134, 135, 136, 137, 138, 139, 140, 141, 142, 143, 144, 145, 146, 147, 148, 149, 150, 151, 152, 153, 154, 155, 156, 157, 158, 159, 160, 161, 162, 163, 164, 165, 166, 167, 168, 169, 170, 171, 172, 173, 174, 175, 176, 177, 178, 179, 180, 181, 182, 183, 184, 185, 186, 187, 188, 189] (by decide +kernel) (by decide +kernel)
set_option maxRecDepth 20000 in
theorem gX13_promise_X13_endOf : GoodIn wsX13_promise (wsV RX13 509 RX13 yX13_endOf wsX13_endOf) := goodIn_app (goodIn_of _ (by decide +kernel)) ggX13_promise_X13_endOf
theorem dX13_promise_0 : decode cX13_promise 0 = .ok (.aload_n 0, 1) := by decide +kernel
theorem dX13_promise_1 : decode cX13_promise 1 = .ok (.iload_n 1, 1) := by decide +kernel
theorem dX13_promise_2 : decode cX13_promise 2 = .ok (.invokevirtual 421, 3) := by decide +kernel
theorem dX13_promise_5 : decode cX13_promise 5 = .ok (.ifCond .eq 21, 3) := by decide +kernel
theorem dX13_promise_8 : decode cX13_promise 8 = .ok (.aload_n 0, 1) := by decide +kernel
theorem dX13_promise_9 : decode cX13_promise 9 = .ok (.getfield 90, 3) := by decide +kernel
theorem dX13_promise_12 : decode cX13_promise 12 = .ok (.iload_n 1, 1) := by decide +kernel
theorem dX13_promise_13 : decode cX13_promise 13 = .ok (.iaload, 1) := by decide +kernel
theorem dX13_promise_14 : decode cX13_promise 14 = .ok (.iconst 1, 1) := by decide +kernel
theorem dX13_promise_15 : decode cX13_promise 15 = .ok (.if_icmp .ne 11, 3) := by decide +kernel
theorem dX13_promise_18 : decode cX13_promise 18 = .ok (.aload_n 0, 1) := by decide +kernel
theorem dX13_promise_19 : decode cX13_promise 19 = .ok (.iload_n 1, 1) := by decide +kernel
theorem dX13_promise_20 : decode cX13_promise 20 = .ok (.invokevirtual 512, 3) := by decide +kernel
theorem dX13_promise_23 : decode cX13_promise 23 = .ok (.ifCond .eq 5, 3) := by decide +kernel
theorem dX13_promise_26 : decode cX13_promise 26 = .ok (.iconst (-1), 1) := by decide +kernel
theorem dX13_promise_27 : decode cX13_promise 27 = .ok (.ireturn, 1) := by decide +kernel
theorem dX13_promise_28 : decode cX13_promise 28 = .ok (.aload_n 0, 1) := by decide +kernel
theorem dX13_promise_29 : decode cX13_promise 29 = .ok (.iload_n 1, 1) := by decide +kernel
theorem dX13_promise_30 : decode cX13_promise 30 = .ok (.invokevirtual 509, 3) := by decide +kernel
theorem dX13_promise_33 : decode cX13_promise 33 = .ok (.istore_n 2, 1) := by decide +kernel
theorem dX13_promise_34 : decode cX13_promise 34 = .ok (.iload_n 2, 1) := by decide +kernel
theorem dX13_promise_35 : decode cX13_promise 35 = .ok (.iconst (-1), 1) := by decide +kernel
theorem dX13_promise_36 : decode cX13_promise 36 = .ok (.if_icmp .ne 5, 3) := by decide +kernel
theorem dX13_promise_39 : decode cX13_promise 39 = .ok (.iconst 3, 1) := by decide +kernel
theorem dX13_promise_40 : decode cX13_promise 40 = .ok (.ireturn, 1) := by decide +kernel
theorem dX13_promise_41 : decode cX13_promise 41 = .ok (.aload_n 0, 1) := by decide +kernel
theorem dX13_promise_42 : decode cX13_promise 42 = .ok (.getfield 102, 3) := by decide +kernel
theorem dX13_promise_45 : decode cX13_promise 45 = .ok (.iload_n 1, 1) := by decide +kernel
theorem dX13_promise_46 : decode cX13_promise 46 = .ok (.iaload, 1) := by decide +kernel
theorem dX13_promise_47 : decode cX13_promise 47 = .ok (.istore_n 3, 1) := by decide +kernel
theorem dX13_promise_48 : decode cX13_promise 48 = .ok (.iload_n 3, 1) := by decide +kernel
theorem dX13_promise_49 : decode cX13_promise 49 = .ok (.iload_n 2, 1) := by decide +kernel
theorem dX13_promise_50 : decode cX13_promise 50 = .ok (.if_icmp .eq 23, 3) := by decide +kernel
theorem dX13_promise_53 : decode cX13_promise 53 = .ok (.aload_n 0, 1) := by decide +kernel
theorem dX13_promise_54 : decode cX13_promise 54 = .ok (.iload_n 3, 1) := by decide +kernel
theorem dX13_promise_55 : decode cX13_promise 55 = .ok (.invokevirtual 512, 3) := by decide +kernel
theorem dX13_promise_58 : decode cX13_promise 58 = .ok (.ifCond .eq 5, 3) := by decide +kernel
theorem dX13_promise_61 : decode cX13_promise 61 = .ok (.iconst 2, 1) := by decide +kernel
theorem dX13_promise_62 : decode cX13_promise 62 = .ok (.ireturn, 1) := by decide +kernel
theorem dX13_promise_63 : decode cX13_promise 63 = .ok (.aload_n 0, 1) := by decide +kernel
theorem dX13_promise_64 : decode cX13_promise 64 = .ok (.getfield 102, 3) := by decide +kernel
theorem dX13_promise_67 : decode cX13_promise 67 = .ok (.iload_n 3, 1) := by decide +kernel
theorem dX13_promise_68 : decode cX13_promise 68 = .ok (.iaload, 1) := by decide +kernel
theorem dX13_promise_69 : decode cX13_promise 69 = .ok (.istore_n 3, 1) := by decide +kernel
theorem dX13_promise_70 : decode cX13_promise 70 = .ok (.goto (-22), 3) := by decide +kernel
theorem dX13_promise_73 : decode cX13_promise 73 = .ok (.aload_n 0, 1) := by decide +kernel
theorem dX13_promise_74 : decode cX13_promise 74 = .ok (.iload_n 2, 1) := by decide +kernel
theorem dX13_promise_75 : decode cX13_promise 75 = .ok (.invokevirtual 512, 3) := by decide +kernel
theorem dX13_promise_78 : decode cX13_promise 78 = .ok (.ifCond .eq 5, 3) := by decide +kernel
theorem dX13_promise_81 : decode cX13_promise 81 = .ok (.iconst 2, 1) := by decide +kernel
theorem dX13_promise_82 : decode cX13_promise 82 = .ok (.ireturn, 1) := by decide +kernel
theorem dX13_promise_83 : decode cX13_promise 83 = .ok (.aload_n 0, 1) := by decide +kernel
theorem dX13_promise_84 : decode cX13_promise 84 = .ok (.getfield 114, 3) := by decide +kernel
theorem dX13_promise_87 : decode cX13_promise 87 = .ok (.iload_n 2, 1) := by decide +kernel
theorem dX13_promise_88 : decode cX13_promise 88 = .ok (.iaload, 1) := by decide +kernel
theorem dX13_promise_89 : decode cX13_promise 89 = .ok (.iconst (-1), 1) := by decide +kernel
theorem dX13_promise_90 : decode cX13_promise 90 = .ok (.if_icmp .eq 7, 3) := by decide +kernel
theorem dX13_promise_93 : decode cX13_promise 93 = .ok (.iconst 0, 1) := by decide +kernel
theorem dX13_promise_94 : decode cX13_promise 94 = .ok (.goto 4, 3) := by decide +kernel
theorem dX13_promise_97 : decode cX13_promise 97 = .ok (.iconst 1, 1) := by decide +kernel
theorem dX13_promise_98 : decode cX13_promise 98 = .ok (.ireturn, 1) := by decide +kernel
set_option maxRecDepth 20000 in
theorem ggX13_promised_X13_isHand : GoodIn wsX13_promised wsX13_isHand := goodIn_r _ [9, 10, 11, 12, 8, 13, 35, 36, 37, 38, 39, 40, 41, 42, 43, 44, 45, 46, 47, 48, 49, 50, 51, 52, 53, 54, 55, 56, 57, 58, 59, 60, 61, 62, 63, 64, 65, 66, 67, 68, 69, 70, 71, 72, 73, 74, 75, 76, 77, 78, 79, 80, 81, 82, 83, 84, 85, 86, 87, 88, 89, 90, 91, 92, 93, 94, 95, 96, 97, 98, 99, 100, 101, 102, 103, 104, 105, 106, 107, 108, 109, 110, 111, 112, 113, 114, 115, 116, 117, 118, 119, 120, 121, 122, 123, 124, 125, 126, 127, 128, 129, 130, 131, 132, 133, 134, 135, 136, 137, 138] (by decide +kernel) (by decide +kernel)
set_option maxRecDepth 20000 in
theorem gX13_promised_X13_isHand : GoodIn wsX13_promised (wsV RX13 449 RX13 yX13_isHand wsX13_isHand) := goodIn_app (goodIn_of _ (by decide +kernel)) ggX13_promised_X13_isHand
set_option maxRecDepth 20000 in
theorem ggX13_promised_X13_endOf : GoodIn wsX13_promised wsX13_endOf := goodIn_r _ [17, 1, 2, 18, 35, 36, 37, 38, 39, 40, 41, 42, 43, 44, 45, 46, 47, 48, 49, 50, 51, 52, 53, 54, 55, 56, 57, 58, 59, 60, 61, 62, 63, 64, 65, 66, 67, 68, 69, 70, 71, 72, 73, 74, 75, 76, 77, 78, 79, 80, 81, 82, 83, 84, 85, 86, 87, 88, 89, 90, 91, 92, 93, 94, 95, 96, 97, 98, 99, 100, 101, 102, 103, 104, 105, 106, 107, 108, 109, 110, 111, 112, 113, 114, 115, 116, 117, 118, 119, 120, 121, 122, 123, 124, 125, 126, 127, 128, 129, 130, 131, 132, 133, 134, 135, 136, 137, 138] (by decide +kernel) (by decide +kernel)
set_option maxRecDepth 20000 in
theorem gX13_promised_X13_endOf : GoodIn wsX13_promised (wsV RX13 509 RX13 yX13_endOf wsX13_endOf) := goodIn_app (goodIn_of _ (by decide +kernel)) ggX13_promised_X13_endOf
set_option maxRecDepth 20000 in
theorem ggX13_promised_X13_hangs : GoodIn wsX13_promised wsX13_hangs := goodIn_r _ [22, 2, 4, 23, 3, 24, 25, 26, 8, 27, 28, 29, 30, 31, 32, 33, 34, 35, 36, 37, 38, 39, 40, 41, 42, 43, 44, 45, 46, 47, 48, 49, 50, 51, 52, 53, 54, 55, 56, 57, 58, 59, 60, 61, 62, 63, 64, 65, 66, 67, 68, 69, 70, 71, 72, 73, 74, 75, 76, 77, 78, 79, 80, 81, 82, 83, 84, 85, 86, 87, 88, 89, 90, 91, 92, 93, 94, 95, 96, 97, 98, 99, 100, 101, 102, 103, 104, 105, 106, 107, 108, 109, 110, 111, 112, 113, 114, 115, 116, 117, 118, 119, 120, 121, 122, 123, 124, 125, 126, 127, 128, 129, 130, 131, 132, 133, 134, 135, 136, 137, 138] (by decide +kernel) (by decide +kernel)
set_option maxRecDepth 20000 in
theorem gX13_promised_X13_hangs : GoodIn wsX13_promised (wsV RX13 485 RX13 yX13_hangs wsX13_hangs) := goodIn_app (goodIn_of _ (by decide +kernel)) ggX13_promised_X13_hangs
theorem dX13_promised_0 : decode cX13_promised 0 = .ok (.aload_n 0, 1) := by decide +kernel
theorem dX13_promised_1 : decode cX13_promised 1 = .ok (.iload_n 1, 1) := by decide +kernel
theorem dX13_promised_2 : decode cX13_promised 2 = .ok (.invokevirtual 449, 3) := by decide +kernel
theorem dX13_promised_5 : decode cX13_promised 5 = .ok (.ifCond .ne 5, 3) := by decide +kernel
theorem dX13_promised_8 : decode cX13_promised 8 = .ok (.iconst (-1), 1) := by decide +kernel
theorem dX13_promised_9 : decode cX13_promised 9 = .ok (.ireturn, 1) := by decide +kernel
theorem dX13_promised_10 : decode cX13_promised 10 = .ok (.iconst 0, 1) := by decide +kernel
theorem dX13_promised_11 : decode cX13_promised 11 = .ok (.istore_n 2, 1) := by decide +kernel
theorem dX13_promised_12 : decode cX13_promised 12 = .ok (.iconst 0, 1) := by decide +kernel
theorem dX13_promised_13 : decode cX13_promised 13 = .ok (.istore_n 3, 1) := by decide +kernel
theorem dX13_promised_14 : decode cX13_promised 14 = .ok (.iload_n 3, 1) := by decide +kernel
theorem dX13_promised_15 : decode cX13_promised 15 = .ok (.aload_n 0, 1) := by decide +kernel
theorem dX13_promised_16 : decode cX13_promised 16 = .ok (.getfield 418, 3) := by decide +kernel
theorem dX13_promised_19 : decode cX13_promised 19 = .ok (.if_icmp .ge 73, 3) := by decide +kernel
theorem dX13_promised_22 : decode cX13_promised 22 = .ok (.aload_n 0, 1) := by decide +kernel
theorem dX13_promised_23 : decode cX13_promised 23 = .ok (.getfield 90, 3) := by decide +kernel
theorem dX13_promised_26 : decode cX13_promised 26 = .ok (.iload_n 3, 1) := by decide +kernel
theorem dX13_promised_27 : decode cX13_promised 27 = .ok (.iaload, 1) := by decide +kernel
theorem dX13_promised_28 : decode cX13_promised 28 = .ok (.iconst 1, 1) := by decide +kernel
theorem dX13_promised_29 : decode cX13_promised 29 = .ok (.if_icmp .ne 20, 3) := by decide +kernel
theorem dX13_promised_32 : decode cX13_promised 32 = .ok (.aload_n 0, 1) := by decide +kernel
theorem dX13_promised_33 : decode cX13_promised 33 = .ok (.getfield 108, 3) := by decide +kernel
theorem dX13_promised_36 : decode cX13_promised 36 = .ok (.iload_n 3, 1) := by decide +kernel
theorem dX13_promised_37 : decode cX13_promised 37 = .ok (.baload, 1) := by decide +kernel
theorem dX13_promised_38 : decode cX13_promised 38 = .ok (.ifCond .ne 11, 3) := by decide +kernel
theorem dX13_promised_41 : decode cX13_promised 41 = .ok (.aload_n 0, 1) := by decide +kernel
theorem dX13_promised_42 : decode cX13_promised 42 = .ok (.iload_n 3, 1) := by decide +kernel
theorem dX13_promised_43 : decode cX13_promised 43 = .ok (.invokevirtual 509, 3) := by decide +kernel
theorem dX13_promised_46 : decode cX13_promised 46 = .ok (.goto 4, 3) := by decide +kernel
theorem dX13_promised_49 : decode cX13_promised 49 = .ok (.iconst (-1), 1) := by decide +kernel
theorem dX13_promised_50 : decode cX13_promised 50 = .ok (.istore 4, 2) := by decide +kernel
theorem dX13_promised_52 : decode cX13_promised 52 = .ok (.iload_n 2, 1) := by decide +kernel
theorem dX13_promised_53 : decode cX13_promised 53 = .ok (.iload 4, 2) := by decide +kernel
theorem dX13_promised_55 : decode cX13_promised 55 = .ok (.iconst (-1), 1) := by decide +kernel
theorem dX13_promised_56 : decode cX13_promised 56 = .ok (.if_icmp .eq 27, 3) := by decide +kernel
theorem dX13_promised_59 : decode cX13_promised 59 = .ok (.aload_n 0, 1) := by decide +kernel
theorem dX13_promised_60 : decode cX13_promised 60 = .ok (.iload 4, 2) := by decide +kernel
theorem dX13_promised_62 : decode cX13_promised 62 = .ok (.invokevirtual 485, 3) := by decide +kernel
theorem dX13_promised_65 : decode cX13_promised 65 = .ok (.ifCond .eq 18, 3) := by decide +kernel
theorem dX13_promised_68 : decode cX13_promised 68 = .ok (.aload_n 0, 1) := by decide +kernel
theorem dX13_promised_69 : decode cX13_promised 69 = .ok (.getfield 105, 3) := by decide +kernel
theorem dX13_promised_72 : decode cX13_promised 72 = .ok (.iload 4, 2) := by decide +kernel
theorem dX13_promised_74 : decode cX13_promised 74 = .ok (.iaload, 1) := by decide +kernel
theorem dX13_promised_75 : decode cX13_promised 75 = .ok (.iload_n 1, 1) := by decide +kernel
theorem dX13_promised_76 : decode cX13_promised 76 = .ok (.if_icmp .ne 7, 3) := by decide +kernel
theorem dX13_promised_79 : decode cX13_promised 79 = .ok (.iconst 1, 1) := by decide +kernel
theorem dX13_promised_80 : decode cX13_promised 80 = .ok (.goto 4, 3) := by decide +kernel
theorem dX13_promised_83 : decode cX13_promised 83 = .ok (.iconst 0, 1) := by decide +kernel
theorem dX13_promised_84 : decode cX13_promised 84 = .ok (.iadd, 1) := by decide +kernel
theorem dX13_promised_85 : decode cX13_promised 85 = .ok (.istore_n 2, 1) := by decide +kernel
theorem dX13_promised_86 : decode cX13_promised 86 = .ok (.iinc 3 1, 3) := by decide +kernel
theorem dX13_promised_89 : decode cX13_promised 89 = .ok (.goto (-75), 3) := by decide +kernel
theorem dX13_promised_92 : decode cX13_promised 92 = .ok (.iload_n 2, 1) := by decide +kernel
theorem dX13_promised_93 : decode cX13_promised 93 = .ok (.ireturn, 1) := by decide +kernel
set_option maxRecDepth 20000 in
theorem ggX13_subscribe_X13_in : GoodIn wsX13_subscribe wsX13_in := goodIn_r _ [6] (by decide +kernel) (by decide +kernel)
set_option maxRecDepth 20000 in
theorem gX13_subscribe_X13_in : GoodIn wsX13_subscribe (va_wsS RX13 256 yX13_in wsX13_in) := goodIn_app (goodIn_of _ (by decide +kernel)) ggX13_subscribe_X13_in
set_option maxRecDepth 20000 in
theorem ggX13_subscribe_X13_isVolume : GoodIn wsX13_subscribe wsX13_isVolume := goodIn_r _ [9, 3, 4, 5, 6] (by decide +kernel) (by decide +kernel)
set_option maxRecDepth 20000 in
theorem gX13_subscribe_X13_isVolume : GoodIn wsX13_subscribe (va_wsS RX13 377 yX13_isVolume wsX13_isVolume) := goodIn_app (goodIn_of _ (by decide +kernel)) ggX13_subscribe_X13_isVolume
theorem dX13_subscribe_0 : decode cX13_subscribe 0 = .ok (.iload_n 1, 1) := by decide +kernel
theorem dX13_subscribe_1 : decode cX13_subscribe 1 = .ok (.iconst 0, 1) := by decide +kernel
theorem dX13_subscribe_2 : decode cX13_subscribe 2 = .ok (.bipush 9, 2) := by decide +kernel
theorem dX13_subscribe_4 : decode cX13_subscribe 4 = .ok (.invokestatic 256, 3) := by decide +kernel
theorem dX13_subscribe_7 : decode cX13_subscribe 7 = .ok (.ifCond .eq 30, 3) := by decide +kernel
theorem dX13_subscribe_10 : decode cX13_subscribe 10 = .ok (.iload_n 2, 1) := by decide +kernel
theorem dX13_subscribe_11 : decode cX13_subscribe 11 = .ok (.invokestatic 377, 3) := by decide +kernel
theorem dX13_subscribe_14 : decode cX13_subscribe 14 = .ok (.ifCond .eq 23, 3) := by decide +kernel
theorem dX13_subscribe_17 : decode cX13_subscribe 17 = .ok (.iload_n 3, 1) := by decide +kernel
theorem dX13_subscribe_18 : decode cX13_subscribe 18 = .ok (.iconst 1, 1) := by decide +kernel
theorem dX13_subscribe_19 : decode cX13_subscribe 19 = .ok (.sipush 999, 3) := by decide +kernel
theorem dX13_subscribe_22 : decode cX13_subscribe 22 = .ok (.invokestatic 256, 3) := by decide +kernel
theorem dX13_subscribe_25 : decode cX13_subscribe 25 = .ok (.ifCond .eq 12, 3) := by decide +kernel
theorem dX13_subscribe_28 : decode cX13_subscribe 28 = .ok (.aload_n 0, 1) := by decide +kernel
theorem dX13_subscribe_29 : decode cX13_subscribe 29 = .ok (.getfield 189, 3) := by decide +kernel
theorem dX13_subscribe_32 : decode cX13_subscribe 32 = .ok (.iload_n 1, 1) := by decide +kernel
theorem dX13_subscribe_33 : decode cX13_subscribe 33 = .ok (.iaload, 1) := by decide +kernel
theorem dX13_subscribe_34 : decode cX13_subscribe 34 = .ok (.ifCond .le 5, 3) := by decide +kernel
theorem dX13_subscribe_37 : decode cX13_subscribe 37 = .ok (.iconst 0, 1) := by decide +kernel
theorem dX13_subscribe_38 : decode cX13_subscribe 38 = .ok (.ireturn, 1) := by decide +kernel
theorem dX13_subscribe_39 : decode cX13_subscribe 39 = .ok (.aload_n 0, 1) := by decide +kernel
theorem dX13_subscribe_40 : decode cX13_subscribe 40 = .ok (.getfield 186, 3) := by decide +kernel
theorem dX13_subscribe_43 : decode cX13_subscribe 43 = .ok (.iload_n 1, 1) := by decide +kernel
theorem dX13_subscribe_44 : decode cX13_subscribe 44 = .ok (.iload_n 2, 1) := by decide +kernel
theorem dX13_subscribe_45 : decode cX13_subscribe 45 = .ok (.iastore, 1) := by decide +kernel
theorem dX13_subscribe_46 : decode cX13_subscribe 46 = .ok (.aload_n 0, 1) := by decide +kernel
theorem dX13_subscribe_47 : decode cX13_subscribe 47 = .ok (.getfield 189, 3) := by decide +kernel
theorem dX13_subscribe_50 : decode cX13_subscribe 50 = .ok (.iload_n 1, 1) := by decide +kernel
theorem dX13_subscribe_51 : decode cX13_subscribe 51 = .ok (.iload_n 3, 1) := by decide +kernel
theorem dX13_subscribe_52 : decode cX13_subscribe 52 = .ok (.iastore, 1) := by decide +kernel
theorem dX13_subscribe_53 : decode cX13_subscribe 53 = .ok (.iconst 1, 1) := by decide +kernel
theorem dX13_subscribe_54 : decode cX13_subscribe 54 = .ok (.ireturn, 1) := by decide +kernel
set_option maxRecDepth 20000 in
theorem ggX13_owed_X13_in : GoodIn wsX13_owed wsX13_in := goodIn_r _ [13] (by decide +kernel) (by decide +kernel)
set_option maxRecDepth 20000 in
theorem gX13_owed_X13_in : GoodIn wsX13_owed (va_wsS RX13 256 yX13_in wsX13_in) := goodIn_app (goodIn_of _ (by decide +kernel)) ggX13_owed_X13_in
set_option maxRecDepth 20000 in
theorem ggX13_owed_X13_isVolume : GoodIn wsX13_owed wsX13_isVolume := goodIn_r _ [16, 10, 11, 12, 13] (by decide +kernel) (by decide +kernel)
set_option maxRecDepth 20000 in
theorem gX13_owed_X13_isVolume : GoodIn wsX13_owed (va_wsS RX13 377 yX13_isVolume wsX13_isVolume) := goodIn_app (goodIn_of _ (by decide +kernel)) ggX13_owed_X13_isVolume
set_option maxRecDepth 20000 in
theorem ggX13_owed_X13_tells : GoodIn wsX13_owed wsX13_tells := goodIn_r _ [20, 21, 22, 23, 12, 24, 25, 26, 27, 28, 29, 30, 31, 32, 33, 34, 35, 36, 37, 38, 39, 40, 4, 41, 42, 43, 44, 45, 46, 47, 48, 49, 50, 51, 52, 53, 54, 55, 56, 57, 58, 59, 60, 61, 62, 63, 64, 65, 66, 67, 68, 69, 70, 71, 72, 73, 74, 75, 76, 77, 78, 79, 80, 81, 82, 83, 84, 85, 86, 87, 88, 89, 90, 91, 92, 93, 94, 95, 96, 97, 98, 99, 100, 101, 102, 103, 104, 105, 106, 107, 108, 109, 110, 111, 112, 113, 114, 115, 116, 117, 118, 119, 120, 121, 122, 123, 124, 125, 126, 127, 128, 129, 130, 131, 132, 133, 134, 135, 136, 137, 138, 139, 140, 141, 142, 143, 144, 145, 146, 147, 148, 149, 150, 151, 152, 153, 154] (by decide +kernel) (by decide +kernel)
set_option maxRecDepth 20000 in
theorem gX13_owed_X13_tells : GoodIn wsX13_owed (wsV RX13 404 RX13 yX13_tells wsX13_tells) := goodIn_app (goodIn_of _ (by decide +kernel)) ggX13_owed_X13_tells
theorem dX13_owed_0 : decode cX13_owed 0 = .ok (.iload_n 1, 1) := by decide +kernel
theorem dX13_owed_1 : decode cX13_owed 1 = .ok (.iconst 0, 1) := by decide +kernel
theorem dX13_owed_2 : decode cX13_owed 2 = .ok (.bipush 9, 2) := by decide +kernel
theorem dX13_owed_4 : decode cX13_owed 4 = .ok (.invokestatic 256, 3) := by decide +kernel
theorem dX13_owed_7 : decode cX13_owed 7 = .ok (.ifCond .eq 38, 3) := by decide +kernel
theorem dX13_owed_10 : decode cX13_owed 10 = .ok (.aload_n 0, 1) := by decide +kernel
theorem dX13_owed_11 : decode cX13_owed 11 = .ok (.getfield 189, 3) := by decide +kernel
theorem dX13_owed_14 : decode cX13_owed 14 = .ok (.iload_n 1, 1) := by decide +kernel
theorem dX13_owed_15 : decode cX13_owed 15 = .ok (.iaload, 1) := by decide +kernel
theorem dX13_owed_16 : decode cX13_owed 16 = .ok (.ifCond .eq 29, 3) := by decide +kernel
theorem dX13_owed_19 : decode cX13_owed 19 = .ok (.iload_n 2, 1) := by decide +kernel
theorem dX13_owed_20 : decode cX13_owed 20 = .ok (.invokestatic 377, 3) := by decide +kernel
theorem dX13_owed_23 : decode cX13_owed 23 = .ok (.ifCond .eq 22, 3) := by decide +kernel
theorem dX13_owed_26 : decode cX13_owed 26 = .ok (.aload_n 0, 1) := by decide +kernel
theorem dX13_owed_27 : decode cX13_owed 27 = .ok (.getfield 68, 3) := by decide +kernel
theorem dX13_owed_30 : decode cX13_owed 30 = .ok (.iload_n 2, 1) := by decide +kernel
theorem dX13_owed_31 : decode cX13_owed 31 = .ok (.baload, 1) := by decide +kernel
theorem dX13_owed_32 : decode cX13_owed 32 = .ok (.ifCond .eq 13, 3) := by decide +kernel
theorem dX13_owed_35 : decode cX13_owed 35 = .ok (.iload_n 2, 1) := by decide +kernel
theorem dX13_owed_36 : decode cX13_owed 36 = .ok (.aload_n 0, 1) := by decide +kernel
theorem dX13_owed_37 : decode cX13_owed 37 = .ok (.getfield 186, 3) := by decide +kernel
theorem dX13_owed_40 : decode cX13_owed 40 = .ok (.iload_n 1, 1) := by decide +kernel
theorem dX13_owed_41 : decode cX13_owed 41 = .ok (.iaload, 1) := by decide +kernel
theorem dX13_owed_42 : decode cX13_owed 42 = .ok (.if_icmp .ge 5, 3) := by decide +kernel
theorem dX13_owed_45 : decode cX13_owed 45 = .ok (.iconst (-1), 1) := by decide +kernel
theorem dX13_owed_46 : decode cX13_owed 46 = .ok (.ireturn, 1) := by decide +kernel
theorem dX13_owed_47 : decode cX13_owed 47 = .ok (.iconst 0, 1) := by decide +kernel
theorem dX13_owed_48 : decode cX13_owed 48 = .ok (.istore_n 3, 1) := by decide +kernel
theorem dX13_owed_49 : decode cX13_owed 49 = .ok (.iload_n 3, 1) := by decide +kernel
theorem dX13_owed_50 : decode cX13_owed 50 = .ok (.bipush 9, 2) := by decide +kernel
theorem dX13_owed_52 : decode cX13_owed 52 = .ok (.if_icmp .ge 16, 3) := by decide +kernel
theorem dX13_owed_55 : decode cX13_owed 55 = .ok (.aload_n 0, 1) := by decide +kernel
theorem dX13_owed_56 : decode cX13_owed 56 = .ok (.getfield 195, 3) := by decide +kernel
theorem dX13_owed_59 : decode cX13_owed 59 = .ok (.iload_n 3, 1) := by decide +kernel
theorem dX13_owed_60 : decode cX13_owed 60 = .ok (.iconst 0, 1) := by decide +kernel
theorem dX13_owed_61 : decode cX13_owed 61 = .ok (.iastore, 1) := by decide +kernel
theorem dX13_owed_62 : decode cX13_owed 62 = .ok (.iinc 3 1, 3) := by decide +kernel
theorem dX13_owed_65 : decode cX13_owed 65 = .ok (.goto (-16), 3) := by decide +kernel
theorem dX13_owed_68 : decode cX13_owed 68 = .ok (.iconst 0, 1) := by decide +kernel
theorem dX13_owed_69 : decode cX13_owed 69 = .ok (.istore_n 3, 1) := by decide +kernel
theorem dX13_owed_70 : decode cX13_owed 70 = .ok (.iload_n 3, 1) := by decide +kernel
theorem dX13_owed_71 : decode cX13_owed 71 = .ok (.aload_n 0, 1) := by decide +kernel
theorem dX13_owed_72 : decode cX13_owed 72 = .ok (.getfield 418, 3) := by decide +kernel
theorem dX13_owed_75 : decode cX13_owed 75 = .ok (.if_icmp .ge 43, 3) := by decide +kernel
theorem dX13_owed_78 : decode cX13_owed 78 = .ok (.aload_n 0, 1) := by decide +kernel
theorem dX13_owed_79 : decode cX13_owed 79 = .ok (.getfield 195, 3) := by decide +kernel
theorem dX13_owed_82 : decode cX13_owed 82 = .ok (.bipush 8, 2) := by decide +kernel
theorem dX13_owed_84 : decode cX13_owed 84 = .ok (.dup2, 1) := by decide +kernel
theorem dX13_owed_85 : decode cX13_owed 85 = .ok (.iaload, 1) := by decide +kernel
theorem dX13_owed_86 : decode cX13_owed 86 = .ok (.aload_n 0, 1) := by decide +kernel
theorem dX13_owed_87 : decode cX13_owed 87 = .ok (.getfield 114, 3) := by decide +kernel
theorem dX13_owed_90 : decode cX13_owed 90 = .ok (.iload_n 3, 1) := by decide +kernel
theorem dX13_owed_91 : decode cX13_owed 91 = .ok (.iaload, 1) := by decide +kernel
theorem dX13_owed_92 : decode cX13_owed 92 = .ok (.iload_n 2, 1) := by decide +kernel
theorem dX13_owed_93 : decode cX13_owed 93 = .ok (.if_icmp .ne 16, 3) := by decide +kernel
theorem dX13_owed_96 : decode cX13_owed 96 = .ok (.aload_n 0, 1) := by decide +kernel
theorem dX13_owed_97 : decode cX13_owed 97 = .ok (.getfield 108, 3) := by decide +kernel
theorem dX13_owed_100 : decode cX13_owed 100 = .ok (.iload_n 3, 1) := by decide +kernel
theorem dX13_owed_101 : decode cX13_owed 101 = .ok (.baload, 1) := by decide +kernel
theorem dX13_owed_102 : decode cX13_owed 102 = .ok (.ifCond .eq 7, 3) := by decide +kernel
theorem dX13_owed_105 : decode cX13_owed 105 = .ok (.iconst 1, 1) := by decide +kernel
theorem dX13_owed_106 : decode cX13_owed 106 = .ok (.goto 4, 3) := by decide +kernel
theorem dX13_owed_109 : decode cX13_owed 109 = .ok (.iconst 0, 1) := by decide +kernel
theorem dX13_owed_110 : decode cX13_owed 110 = .ok (.iadd, 1) := by decide +kernel
theorem dX13_owed_111 : decode cX13_owed 111 = .ok (.iastore, 1) := by decide +kernel
theorem dX13_owed_112 : decode cX13_owed 112 = .ok (.iinc 3 1, 3) := by decide +kernel
theorem dX13_owed_115 : decode cX13_owed 115 = .ok (.goto (-45), 3) := by decide +kernel
theorem dX13_owed_118 : decode cX13_owed 118 = .ok (.aload_n 0, 1) := by decide +kernel
theorem dX13_owed_119 : decode cX13_owed 119 = .ok (.getfield 195, 3) := by decide +kernel
theorem dX13_owed_122 : decode cX13_owed 122 = .ok (.iconst 1, 1) := by decide +kernel
theorem dX13_owed_123 : decode cX13_owed 123 = .ok (.aload_n 0, 1) := by decide +kernel
theorem dX13_owed_124 : decode cX13_owed 124 = .ok (.getfield 81, 3) := by decide +kernel
theorem dX13_owed_127 : decode cX13_owed 127 = .ok (.iload_n 2, 1) := by decide +kernel
theorem dX13_owed_128 : decode cX13_owed 128 = .ok (.iaload, 1) := by decide +kernel
theorem dX13_owed_129 : decode cX13_owed 129 = .ok (.iastore, 1) := by decide +kernel
theorem dX13_owed_130 : decode cX13_owed 130 = .ok (.aload_n 0, 1) := by decide +kernel
theorem dX13_owed_131 : decode cX13_owed 131 = .ok (.getfield 195, 3) := by decide +kernel
theorem dX13_owed_134 : decode cX13_owed 134 = .ok (.bipush 7, 2) := by decide +kernel
theorem dX13_owed_136 : decode cX13_owed 136 = .ok (.iload_n 2, 1) := by decide +kernel
theorem dX13_owed_137 : decode cX13_owed 137 = .ok (.iastore, 1) := by decide +kernel
theorem dX13_owed_138 : decode cX13_owed 138 = .ok (.aload_n 0, 1) := by decide +kernel
theorem dX13_owed_139 : decode cX13_owed 139 = .ok (.iconst 4, 1) := by decide +kernel
theorem dX13_owed_140 : decode cX13_owed 140 = .ok (.iload_n 2, 1) := by decide +kernel
theorem dX13_owed_141 : decode cX13_owed 141 = .ok (.aload_n 0, 1) := by decide +kernel
theorem dX13_owed_142 : decode cX13_owed 142 = .ok (.getfield 72, 3) := by decide +kernel
theorem dX13_owed_145 : decode cX13_owed 145 = .ok (.iload_n 2, 1) := by decide +kernel
theorem dX13_owed_146 : decode cX13_owed 146 = .ok (.iaload, 1) := by decide +kernel
theorem dX13_owed_147 : decode cX13_owed 147 = .ok (.invokevirtual 404, 3) := by decide +kernel
theorem dX13_owed_150 : decode cX13_owed 150 = .ok (.istore_n 3, 1) := by decide +kernel
theorem dX13_owed_151 : decode cX13_owed 151 = .ok (.iload_n 3, 1) := by decide +kernel
theorem dX13_owed_152 : decode cX13_owed 152 = .ok (.ifCond .ge 7, 3) := by decide +kernel
theorem dX13_owed_155 : decode cX13_owed 155 = .ok (.iconst 0, 1) := by decide +kernel
theorem dX13_owed_156 : decode cX13_owed 156 = .ok (.goto 23, 3) := by decide +kernel
theorem dX13_owed_159 : decode cX13_owed 159 = .ok (.iload_n 3, 1) := by decide +kernel
theorem dX13_owed_160 : decode cX13_owed 160 = .ok (.aload_n 0, 1) := by decide +kernel
theorem dX13_owed_161 : decode cX13_owed 161 = .ok (.getfield 189, 3) := by decide +kernel
theorem dX13_owed_164 : decode cX13_owed 164 = .ok (.iload_n 1, 1) := by decide +kernel
theorem dX13_owed_165 : decode cX13_owed 165 = .ok (.iaload, 1) := by decide +kernel
theorem dX13_owed_166 : decode cX13_owed 166 = .ok (.if_icmp .le 12, 3) := by decide +kernel
theorem dX13_owed_169 : decode cX13_owed 169 = .ok (.aload_n 0, 1) := by decide +kernel
theorem dX13_owed_170 : decode cX13_owed 170 = .ok (.getfield 189, 3) := by decide +kernel
theorem dX13_owed_173 : decode cX13_owed 173 = .ok (.iload_n 1, 1) := by decide +kernel
theorem dX13_owed_174 : decode cX13_owed 174 = .ok (.iaload, 1) := by decide +kernel
theorem dX13_owed_175 : decode cX13_owed 175 = .ok (.goto 4, 3) := by decide +kernel
theorem dX13_owed_178 : decode cX13_owed 178 = .ok (.iload_n 3, 1) := by decide +kernel
theorem dX13_owed_179 : decode cX13_owed 179 = .ok (.ireturn, 1) := by decide +kernel
theorem dX13_bounded_0 : decode cX13_bounded 0 = .ok (.iload_n 0, 1) := by decide +kernel
theorem dX13_bounded_1 : decode cX13_bounded 1 = .ok (.iconst 1, 1) := by decide +kernel
theorem dX13_bounded_2 : decode cX13_bounded 2 = .ok (.if_icmp .ge 7, 3) := by decide +kernel
theorem dX13_bounded_5 : decode cX13_bounded 5 = .ok (.iconst 1, 1) := by decide +kernel
theorem dX13_bounded_6 : decode cX13_bounded 6 = .ok (.goto 17, 3) := by decide +kernel
theorem dX13_bounded_9 : decode cX13_bounded 9 = .ok (.iload_n 0, 1) := by decide +kernel
theorem dX13_bounded_10 : decode cX13_bounded 10 = .ok (.sipush 400, 3) := by decide +kernel
theorem dX13_bounded_13 : decode cX13_bounded 13 = .ok (.if_icmp .le 9, 3) := by decide +kernel
theorem dX13_bounded_16 : decode cX13_bounded 16 = .ok (.sipush 400, 3) := by decide +kernel
theorem dX13_bounded_19 : decode cX13_bounded 19 = .ok (.goto 4, 3) := by decide +kernel
theorem dX13_bounded_22 : decode cX13_bounded 22 = .ok (.iload_n 0, 1) := by decide +kernel
theorem dX13_bounded_23 : decode cX13_bounded 23 = .ok (.ireturn, 1) := by decide +kernel
set_option maxRecDepth 20000 in
theorem ggX13_bringsTo_X13_isVolume : GoodIn wsX13_bringsTo wsX13_isVolume := goodIn_r _ [16, 17, 18, 15, 19] (by decide +kernel) (by decide +kernel)
set_option maxRecDepth 20000 in
theorem gX13_bringsTo_X13_isVolume : GoodIn wsX13_bringsTo (va_wsS RX13 377 yX13_isVolume wsX13_isVolume) := goodIn_app (goodIn_of _ (by decide +kernel)) ggX13_bringsTo_X13_isVolume
set_option maxRecDepth 20000 in
theorem ggX13_bringsTo_X13_in : GoodIn wsX13_bringsTo wsX13_in := goodIn_r _ [19] (by decide +kernel) (by decide +kernel)
set_option maxRecDepth 20000 in
theorem gX13_bringsTo_X13_in : GoodIn wsX13_bringsTo (va_wsS RX13 256 yX13_in wsX13_in) := goodIn_app (goodIn_of _ (by decide +kernel)) ggX13_bringsTo_X13_in
set_option maxRecDepth 20000 in
theorem ggX13_bringsTo_X13_orders : GoodIn wsX13_bringsTo wsX13_orders := goodIn_r _ [23, 1, 24, 3, 25, 26, 27, 28, 29, 15, 30, 31, 32, 33, 34, 35, 36, 37, 9, 38, 39, 40, 41, 42, 43, 44, 45, 46, 47, 48, 49, 50, 51, 52, 53, 54, 55, 56, 57, 58, 59, 60, 61, 62, 63, 64, 65, 66, 67, 68, 69, 70, 71, 72, 73, 74, 75, 76, 77, 78, 79, 80, 81, 82, 83, 84, 85, 86, 87, 88, 89, 90, 91, 92, 93, 94, 95, 96, 97, 98, 129, 130, 131, 132, 133, 134, 135, 136, 137, 138, 139, 140, 141, 142, 143, 144, 145, 146, 147, 148, 149, 150, 151, 152, 153, 154, 155, 156, 157, 158, 159, 160, 161, 162, 163, 164, 165, 166, 167, 168, 169, 170, 171, 172, 173, 174, 175, 176, 177, 178, 179, 180, 181, 182, 183, 184, 185, 186, 187, 188, 189, 190, 191, 192, 193, 194, 195, 196, 197, 198, 199, 200, 201, 202, 203, 204, 205, 206, 207, 208, 209, 210, 211, 212, 213, 214, 215, 216, 217, 218, 219, 220, 221, 222, 223, 224, 225, 226, 227, 228, 229, 230, 231, 232] (by decide +kernel) (by decide +kernel)
set_option maxRecDepth 20000 in
theorem gX13_bringsTo_X13_orders : GoodIn wsX13_bringsTo (wsV RX13 442 RX13 yX13_orders wsX13_orders) := goodIn_app (goodIn_of _ (by decide +kernel)) ggX13_bringsTo_X13_orders
set_option maxRecDepth 20000 in
theorem ggX13_bringsTo_X13_asks : GoodIn wsX13_bringsTo wsX13_asks := goodIn_r _ [102, 69, 12, 26, 5, 103, 4, 104, 105, 9, 106, 107, 108, 109, 15, 110, 111, 112, 113, 114, 115, 116, 117, 27, 28, 29, 30, 31, 32, 1, 33, 34, 35, 36, 37, 38, 39, 40, 41, 42, 43, 44, 45, 46, 47, 48, 49, 50, 51, 52, 53, 54, 55, 56, 57, 58, 59, 60, 61, 62, 63, 64, 65, 66, 67, 68, 70, 71, 72, 73, 74, 75, 76, 77, 78, 79, 80, 81, 82, 83, 84, 85, 86, 87, 88, 89, 118, 119, 120, 121, 6, 122, 123, 124, 125, 129, 130, 131, 132, 133, 134, 135, 136, 137, 138, 139, 140, 141, 142, 143, 144, 145, 146, 147, 148, 149, 150, 151, 152, 153, 154, 155, 156, 157, 158, 159, 160, 161, 162, 163, 164, 165, 166, 167, 168, 169, 170, 171, 172, 173, 174, 175, 176, 177, 178, 179, 180, 181, 182, 183, 184, 185, 186, 187, 188, 189, 190, 191, 192, 193, 194, 195, 196, 197, 198, 199, 200, 201, 202, 203, 204, 205, 206, 207, 208, 209, 210, 211, 212, 213, 214, 215, 216, 217, 218, 219, 220, 221, 222, 223, 224, 225, 226, 227, 228, 229, 230, 231, 232] (by decide +kernel) (by decide +kernel)
set_option maxRecDepth 20000 in
theorem gX13_bringsTo_X13_asks : GoodIn wsX13_bringsTo (wsV RX13 470 RX13 yX13_asks wsX13_asks) := goodIn_app (goodIn_of _ (by decide +kernel)) ggX13_bringsTo_X13_asks
set_option maxRecDepth 20000 in
theorem ggX13_bringsTo_X13_tells : GoodIn wsX13_bringsTo wsX13_tells := goodIn_r _ [48, 49, 50, 51, 15, 52, 53, 54, 55, 56, 57, 58, 59, 60, 61, 62, 63, 64, 65, 66, 67, 68, 69, 70, 71, 72, 73, 74, 75, 76, 77, 78, 79, 129, 130, 131, 132, 133, 134, 135, 136, 137, 138, 139, 140, 141, 142, 143, 144, 145, 146, 147, 148, 149, 150, 151, 152, 153, 154, 155, 156, 157, 158, 159, 160, 161, 162, 163, 164, 165, 166, 167, 168, 169, 170, 171, 172, 173, 174, 175, 176, 177, 178, 179, 180, 181, 182, 183, 184, 185, 186, 187, 188, 189, 190, 191, 192, 193, 194, 195, 196, 197, 198, 199, 200, 201, 202, 203, 204, 205, 206, 207, 208, 209, 210, 211, 212, 213, 214, 215, 216, 217, 218, 219, 220, 221, 222, 223, 224, 225, 226, 227, 228, 229, 230, 231, 232] (by decide +kernel) (by decide +kernel)
set_option maxRecDepth 20000 in
theorem gX13_bringsTo_X13_tells : GoodIn wsX13_bringsTo (wsV RX13 404 RX13 yX13_tells wsX13_tells) := goodIn_app (goodIn_of _ (by decide +kernel)) ggX13_bringsTo_X13_tells
set_option maxRecDepth 20000 in
theorem ggX13_bringsTo_X13_bounded : GoodIn wsX13_bringsTo wsX13_bounded := goodIn_r _ [128] (by decide +kernel) (by decide +kernel)
set_option maxRecDepth 20000 in
theorem gX13_bringsTo_X13_bounded : GoodIn wsX13_bringsTo (va_wsS RX13 518 yX13_bounded wsX13_bounded) := goodIn_app (goodIn_of _ (by decide +kernel)) ggX13_bringsTo_X13_bounded
theorem dX13_bringsTo_0 : decode cX13_bringsTo 0 = .ok (.iload_n 1, 1) := by decide +kernel
theorem dX13_bringsTo_1 : decode cX13_bringsTo 1 = .ok (.invokestatic 377, 3) := by decide +kernel
theorem dX13_bringsTo_4 : decode cX13_bringsTo 4 = .ok (.ifCond .eq 23, 3) := by decide +kernel
theorem dX13_bringsTo_7 : decode cX13_bringsTo 7 = .ok (.aload_n 0, 1) := by decide +kernel
theorem dX13_bringsTo_8 : decode cX13_bringsTo 8 = .ok (.getfield 68, 3) := by decide +kernel
theorem dX13_bringsTo_11 : decode cX13_bringsTo 11 = .ok (.iload_n 1, 1) := by decide +kernel
theorem dX13_bringsTo_12 : decode cX13_bringsTo 12 = .ok (.baload, 1) := by decide +kernel
theorem dX13_bringsTo_13 : decode cX13_bringsTo 13 = .ok (.ifCond .ne 14, 3) := by decide +kernel
theorem dX13_bringsTo_16 : decode cX13_bringsTo 16 = .ok (.iload_n 2, 1) := by decide +kernel
theorem dX13_bringsTo_17 : decode cX13_bringsTo 17 = .ok (.iconst 1, 1) := by decide +kernel
theorem dX13_bringsTo_18 : decode cX13_bringsTo 18 = .ok (.sipush 400, 3) := by decide +kernel
theorem dX13_bringsTo_21 : decode cX13_bringsTo 21 = .ok (.invokestatic 256, 3) := by decide +kernel
theorem dX13_bringsTo_24 : decode cX13_bringsTo 24 = .ok (.ifCond .ne 5, 3) := by decide +kernel
theorem dX13_bringsTo_27 : decode cX13_bringsTo 27 = .ok (.iconst (-1), 1) := by decide +kernel
theorem dX13_bringsTo_28 : decode cX13_bringsTo 28 = .ok (.ireturn, 1) := by decide +kernel
theorem dX13_bringsTo_29 : decode cX13_bringsTo 29 = .ok (.aload_n 0, 1) := by decide +kernel
theorem dX13_bringsTo_30 : decode cX13_bringsTo 30 = .ok (.iload_n 1, 1) := by decide +kernel
theorem dX13_bringsTo_31 : decode cX13_bringsTo 31 = .ok (.invokevirtual 442, 3) := by decide +kernel
theorem dX13_bringsTo_34 : decode cX13_bringsTo 34 = .ok (.istore_n 3, 1) := by decide +kernel
theorem dX13_bringsTo_35 : decode cX13_bringsTo 35 = .ok (.iconst 0, 1) := by decide +kernel
theorem dX13_bringsTo_36 : decode cX13_bringsTo 36 = .ok (.istore 4, 2) := by decide +kernel
theorem dX13_bringsTo_38 : decode cX13_bringsTo 38 = .ok (.iconst 0, 1) := by decide +kernel
theorem dX13_bringsTo_39 : decode cX13_bringsTo 39 = .ok (.istore 5, 2) := by decide +kernel
theorem dX13_bringsTo_41 : decode cX13_bringsTo 41 = .ok (.iconst 0, 1) := by decide +kernel
theorem dX13_bringsTo_42 : decode cX13_bringsTo 42 = .ok (.istore 6, 2) := by decide +kernel
theorem dX13_bringsTo_44 : decode cX13_bringsTo 44 = .ok (.aload_n 0, 1) := by decide +kernel
theorem dX13_bringsTo_45 : decode cX13_bringsTo 45 = .ok (.iconst 0, 1) := by decide +kernel
theorem dX13_bringsTo_46 : decode cX13_bringsTo 46 = .ok (.putfield 515, 3) := by decide +kernel
theorem dX13_bringsTo_49 : decode cX13_bringsTo 49 = .ok (.iconst 0, 1) := by decide +kernel
theorem dX13_bringsTo_50 : decode cX13_bringsTo 50 = .ok (.istore 7, 2) := by decide +kernel
theorem dX13_bringsTo_52 : decode cX13_bringsTo 52 = .ok (.iload 7, 2) := by decide +kernel
theorem dX13_bringsTo_54 : decode cX13_bringsTo 54 = .ok (.iload_n 3, 1) := by decide +kernel
theorem dX13_bringsTo_55 : decode cX13_bringsTo 55 = .ok (.if_icmp .ge 289, 3) := by decide +kernel
theorem dX13_bringsTo_58 : decode cX13_bringsTo 58 = .ok (.aload_n 0, 1) := by decide +kernel
theorem dX13_bringsTo_59 : decode cX13_bringsTo 59 = .ok (.getfield 210, 3) := by decide +kernel
theorem dX13_bringsTo_62 : decode cX13_bringsTo 62 = .ok (.iload 7, 2) := by decide +kernel
theorem dX13_bringsTo_64 : decode cX13_bringsTo 64 = .ok (.iaload, 1) := by decide +kernel
theorem dX13_bringsTo_65 : decode cX13_bringsTo 65 = .ok (.istore 8, 2) := by decide +kernel
theorem dX13_bringsTo_67 : decode cX13_bringsTo 67 = .ok (.aload_n 0, 1) := by decide +kernel
theorem dX13_bringsTo_68 : decode cX13_bringsTo 68 = .ok (.getfield 108, 3) := by decide +kernel
theorem dX13_bringsTo_71 : decode cX13_bringsTo 71 = .ok (.iload 8, 2) := by decide +kernel
theorem dX13_bringsTo_73 : decode cX13_bringsTo 73 = .ok (.baload, 1) := by decide +kernel
theorem dX13_bringsTo_74 : decode cX13_bringsTo 74 = .ok (.ifCond .eq 6, 3) := by decide +kernel
theorem dX13_bringsTo_77 : decode cX13_bringsTo 77 = .ok (.goto 261, 3) := by decide +kernel
theorem dX13_bringsTo_80 : decode cX13_bringsTo 80 = .ok (.aload_n 0, 1) := by decide +kernel
theorem dX13_bringsTo_81 : decode cX13_bringsTo 81 = .ok (.getfield 90, 3) := by decide +kernel
theorem dX13_bringsTo_84 : decode cX13_bringsTo 84 = .ok (.iload 8, 2) := by decide +kernel
theorem dX13_bringsTo_86 : decode cX13_bringsTo 86 = .ok (.iaload, 1) := by decide +kernel
theorem dX13_bringsTo_87 : decode cX13_bringsTo 87 = .ok (.ifCond .eq 46, 3) := by decide +kernel
theorem dX13_bringsTo_90 : decode cX13_bringsTo 90 = .ok (.aload_n 0, 1) := by decide +kernel
theorem dX13_bringsTo_91 : decode cX13_bringsTo 91 = .ok (.getfield 90, 3) := by decide +kernel
theorem dX13_bringsTo_94 : decode cX13_bringsTo 94 = .ok (.iload 8, 2) := by decide +kernel
theorem dX13_bringsTo_96 : decode cX13_bringsTo 96 = .ok (.iaload, 1) := by decide +kernel
theorem dX13_bringsTo_97 : decode cX13_bringsTo 97 = .ok (.iconst 1, 1) := by decide +kernel
theorem dX13_bringsTo_98 : decode cX13_bringsTo 98 = .ok (.if_icmp .ne 7, 3) := by decide +kernel
theorem dX13_bringsTo_101 : decode cX13_bringsTo 101 = .ok (.iconst 1, 1) := by decide +kernel
theorem dX13_bringsTo_102 : decode cX13_bringsTo 102 = .ok (.goto 5, 3) := by decide +kernel
theorem dX13_bringsTo_105 : decode cX13_bringsTo 105 = .ok (.bipush 10, 2) := by decide +kernel
theorem dX13_bringsTo_107 : decode cX13_bringsTo 107 = .ok (.istore 9, 2) := by decide +kernel
theorem dX13_bringsTo_109 : decode cX13_bringsTo 109 = .ok (.iload 4, 2) := by decide +kernel
theorem dX13_bringsTo_111 : decode cX13_bringsTo 111 = .ok (.iload 9, 2) := by decide +kernel
theorem dX13_bringsTo_113 : decode cX13_bringsTo 113 = .ok (.iadd, 1) := by decide +kernel
theorem dX13_bringsTo_114 : decode cX13_bringsTo 114 = .ok (.istore 4, 2) := by decide +kernel
theorem dX13_bringsTo_116 : decode cX13_bringsTo 116 = .ok (.iload 5, 2) := by decide +kernel
theorem dX13_bringsTo_118 : decode cX13_bringsTo 118 = .ok (.iload 9, 2) := by decide +kernel
theorem dX13_bringsTo_120 : decode cX13_bringsTo 120 = .ok (.iadd, 1) := by decide +kernel
theorem dX13_bringsTo_121 : decode cX13_bringsTo 121 = .ok (.istore 5, 2) := by decide +kernel
theorem dX13_bringsTo_123 : decode cX13_bringsTo 123 = .ok (.iload 6, 2) := by decide +kernel
theorem dX13_bringsTo_125 : decode cX13_bringsTo 125 = .ok (.iload 9, 2) := by decide +kernel
theorem dX13_bringsTo_127 : decode cX13_bringsTo 127 = .ok (.iadd, 1) := by decide +kernel
theorem dX13_bringsTo_128 : decode cX13_bringsTo 128 = .ok (.istore 6, 2) := by decide +kernel
theorem dX13_bringsTo_130 : decode cX13_bringsTo 130 = .ok (.goto 208, 3) := by decide +kernel
theorem dX13_bringsTo_133 : decode cX13_bringsTo 133 = .ok (.aload_n 0, 1) := by decide +kernel
theorem dX13_bringsTo_134 : decode cX13_bringsTo 134 = .ok (.iload 8, 2) := by decide +kernel
theorem dX13_bringsTo_136 : decode cX13_bringsTo 136 = .ok (.aload_n 0, 1) := by decide +kernel
theorem dX13_bringsTo_137 : decode cX13_bringsTo 137 = .ok (.getfield 105, 3) := by decide +kernel
theorem dX13_bringsTo_140 : decode cX13_bringsTo 140 = .ok (.iload 8, 2) := by decide +kernel
theorem dX13_bringsTo_142 : decode cX13_bringsTo 142 = .ok (.iaload, 1) := by decide +kernel
theorem dX13_bringsTo_143 : decode cX13_bringsTo 143 = .ok (.invokevirtual 470, 3) := by decide +kernel
theorem dX13_bringsTo_146 : decode cX13_bringsTo 146 = .ok (.aload_n 0, 1) := by decide +kernel
theorem dX13_bringsTo_147 : decode cX13_bringsTo 147 = .ok (.getfield 216, 3) := by decide +kernel
theorem dX13_bringsTo_150 : decode cX13_bringsTo 150 = .ok (.iload 8, 2) := by decide +kernel
theorem dX13_bringsTo_152 : decode cX13_bringsTo 152 = .ok (.aload_n 0, 1) := by decide +kernel
theorem dX13_bringsTo_153 : decode cX13_bringsTo 153 = .ok (.bipush 8, 2) := by decide +kernel
theorem dX13_bringsTo_155 : decode cX13_bringsTo 155 = .ok (.aload_n 0, 1) := by decide +kernel
theorem dX13_bringsTo_156 : decode cX13_bringsTo 156 = .ok (.getfield 93, 3) := by decide +kernel
theorem dX13_bringsTo_159 : decode cX13_bringsTo 159 = .ok (.iload 8, 2) := by decide +kernel
theorem dX13_bringsTo_161 : decode cX13_bringsTo 161 = .ok (.iaload, 1) := by decide +kernel
theorem dX13_bringsTo_162 : decode cX13_bringsTo 162 = .ok (.iadd, 1) := by decide +kernel
theorem dX13_bringsTo_163 : decode cX13_bringsTo 163 = .ok (.iload_n 1, 1) := by decide +kernel
theorem dX13_bringsTo_164 : decode cX13_bringsTo 164 = .ok (.aload_n 0, 1) := by decide +kernel
theorem dX13_bringsTo_165 : decode cX13_bringsTo 165 = .ok (.getfield 383, 3) := by decide +kernel
theorem dX13_bringsTo_168 : decode cX13_bringsTo 168 = .ok (.invokevirtual 404, 3) := by decide +kernel
theorem dX13_bringsTo_171 : decode cX13_bringsTo 171 = .ok (.invokestatic 518, 3) := by decide +kernel
theorem dX13_bringsTo_174 : decode cX13_bringsTo 174 = .ok (.iastore, 1) := by decide +kernel
theorem dX13_bringsTo_175 : decode cX13_bringsTo 175 = .ok (.aload_n 0, 1) := by decide +kernel
theorem dX13_bringsTo_176 : decode cX13_bringsTo 176 = .ok (.getfield 213, 3) := by decide +kernel
theorem dX13_bringsTo_179 : decode cX13_bringsTo 179 = .ok (.iload 8, 2) := by decide +kernel
theorem dX13_bringsTo_181 : decode cX13_bringsTo 181 = .ok (.aload_n 0, 1) := by decide +kernel
theorem dX13_bringsTo_182 : decode cX13_bringsTo 182 = .ok (.iconst 5, 1) := by decide +kernel
theorem dX13_bringsTo_183 : decode cX13_bringsTo 183 = .ok (.aload_n 0, 1) := by decide +kernel
theorem dX13_bringsTo_184 : decode cX13_bringsTo 184 = .ok (.getfield 93, 3) := by decide +kernel
theorem dX13_bringsTo_187 : decode cX13_bringsTo 187 = .ok (.iload 8, 2) := by decide +kernel
theorem dX13_bringsTo_189 : decode cX13_bringsTo 189 = .ok (.iaload, 1) := by decide +kernel
theorem dX13_bringsTo_190 : decode cX13_bringsTo 190 = .ok (.iadd, 1) := by decide +kernel
theorem dX13_bringsTo_191 : decode cX13_bringsTo 191 = .ok (.iload_n 1, 1) := by decide +kernel
theorem dX13_bringsTo_192 : decode cX13_bringsTo 192 = .ok (.aload_n 0, 1) := by decide +kernel
theorem dX13_bringsTo_193 : decode cX13_bringsTo 193 = .ok (.getfield 383, 3) := by decide +kernel
theorem dX13_bringsTo_196 : decode cX13_bringsTo 196 = .ok (.invokevirtual 404, 3) := by decide +kernel
theorem dX13_bringsTo_199 : decode cX13_bringsTo 199 = .ok (.invokestatic 518, 3) := by decide +kernel
theorem dX13_bringsTo_202 : decode cX13_bringsTo 202 = .ok (.iastore, 1) := by decide +kernel
theorem dX13_bringsTo_203 : decode cX13_bringsTo 203 = .ok (.aload_n 0, 1) := by decide +kernel
theorem dX13_bringsTo_204 : decode cX13_bringsTo 204 = .ok (.getfield 213, 3) := by decide +kernel
theorem dX13_bringsTo_207 : decode cX13_bringsTo 207 = .ok (.iload 8, 2) := by decide +kernel
theorem dX13_bringsTo_209 : decode cX13_bringsTo 209 = .ok (.iaload, 1) := by decide +kernel
theorem dX13_bringsTo_210 : decode cX13_bringsTo 210 = .ok (.aload_n 0, 1) := by decide +kernel
theorem dX13_bringsTo_211 : decode cX13_bringsTo 211 = .ok (.getfield 216, 3) := by decide +kernel
theorem dX13_bringsTo_214 : decode cX13_bringsTo 214 = .ok (.iload 8, 2) := by decide +kernel
theorem dX13_bringsTo_216 : decode cX13_bringsTo 216 = .ok (.iaload, 1) := by decide +kernel
theorem dX13_bringsTo_217 : decode cX13_bringsTo 217 = .ok (.if_icmp .le 17, 3) := by decide +kernel
theorem dX13_bringsTo_220 : decode cX13_bringsTo 220 = .ok (.aload_n 0, 1) := by decide +kernel
theorem dX13_bringsTo_221 : decode cX13_bringsTo 221 = .ok (.getfield 213, 3) := by decide +kernel
theorem dX13_bringsTo_224 : decode cX13_bringsTo 224 = .ok (.iload 8, 2) := by decide +kernel
theorem dX13_bringsTo_226 : decode cX13_bringsTo 226 = .ok (.aload_n 0, 1) := by decide +kernel
theorem dX13_bringsTo_227 : decode cX13_bringsTo 227 = .ok (.getfield 216, 3) := by decide +kernel
theorem dX13_bringsTo_230 : decode cX13_bringsTo 230 = .ok (.iload 8, 2) := by decide +kernel
theorem dX13_bringsTo_232 : decode cX13_bringsTo 232 = .ok (.iaload, 1) := by decide +kernel
theorem dX13_bringsTo_233 : decode cX13_bringsTo 233 = .ok (.iastore, 1) := by decide +kernel
theorem dX13_bringsTo_234 : decode cX13_bringsTo 234 = .ok (.aload_n 0, 1) := by decide +kernel
theorem dX13_bringsTo_235 : decode cX13_bringsTo 235 = .ok (.getfield 219, 3) := by decide +kernel
theorem dX13_bringsTo_238 : decode cX13_bringsTo 238 = .ok (.iload 8, 2) := by decide +kernel
theorem dX13_bringsTo_240 : decode cX13_bringsTo 240 = .ok (.aload_n 0, 1) := by decide +kernel
theorem dX13_bringsTo_241 : decode cX13_bringsTo 241 = .ok (.getfield 99, 3) := by decide +kernel
theorem dX13_bringsTo_244 : decode cX13_bringsTo 244 = .ok (.iload 8, 2) := by decide +kernel
theorem dX13_bringsTo_246 : decode cX13_bringsTo 246 = .ok (.iaload, 1) := by decide +kernel
theorem dX13_bringsTo_247 : decode cX13_bringsTo 247 = .ok (.aload_n 0, 1) := by decide +kernel
theorem dX13_bringsTo_248 : decode cX13_bringsTo 248 = .ok (.getfield 213, 3) := by decide +kernel
theorem dX13_bringsTo_251 : decode cX13_bringsTo 251 = .ok (.iload 8, 2) := by decide +kernel
theorem dX13_bringsTo_253 : decode cX13_bringsTo 253 = .ok (.iaload, 1) := by decide +kernel
theorem dX13_bringsTo_254 : decode cX13_bringsTo 254 = .ok (.if_icmp .ge 13, 3) := by decide +kernel
theorem dX13_bringsTo_257 : decode cX13_bringsTo 257 = .ok (.aload_n 0, 1) := by decide +kernel
theorem dX13_bringsTo_258 : decode cX13_bringsTo 258 = .ok (.getfield 213, 3) := by decide +kernel
theorem dX13_bringsTo_261 : decode cX13_bringsTo 261 = .ok (.iload 8, 2) := by decide +kernel
theorem dX13_bringsTo_263 : decode cX13_bringsTo 263 = .ok (.iaload, 1) := by decide +kernel
theorem dX13_bringsTo_264 : decode cX13_bringsTo 264 = .ok (.goto 37, 3) := by decide +kernel
theorem dX13_bringsTo_267 : decode cX13_bringsTo 267 = .ok (.aload_n 0, 1) := by decide +kernel
theorem dX13_bringsTo_268 : decode cX13_bringsTo 268 = .ok (.getfield 99, 3) := by decide +kernel
theorem dX13_bringsTo_271 : decode cX13_bringsTo 271 = .ok (.iload 8, 2) := by decide +kernel
theorem dX13_bringsTo_273 : decode cX13_bringsTo 273 = .ok (.iaload, 1) := by decide +kernel
theorem dX13_bringsTo_274 : decode cX13_bringsTo 274 = .ok (.aload_n 0, 1) := by decide +kernel
theorem dX13_bringsTo_275 : decode cX13_bringsTo 275 = .ok (.getfield 216, 3) := by decide +kernel
theorem dX13_bringsTo_278 : decode cX13_bringsTo 278 = .ok (.iload 8, 2) := by decide +kernel
theorem dX13_bringsTo_280 : decode cX13_bringsTo 280 = .ok (.iaload, 1) := by decide +kernel
theorem dX13_bringsTo_281 : decode cX13_bringsTo 281 = .ok (.if_icmp .le 13, 3) := by decide +kernel
theorem dX13_bringsTo_284 : decode cX13_bringsTo 284 = .ok (.aload_n 0, 1) := by decide +kernel
theorem dX13_bringsTo_285 : decode cX13_bringsTo 285 = .ok (.getfield 216, 3) := by decide +kernel
theorem dX13_bringsTo_288 : decode cX13_bringsTo 288 = .ok (.iload 8, 2) := by decide +kernel
theorem dX13_bringsTo_290 : decode cX13_bringsTo 290 = .ok (.iaload, 1) := by decide +kernel
theorem dX13_bringsTo_291 : decode cX13_bringsTo 291 = .ok (.goto 10, 3) := by decide +kernel
theorem dX13_bringsTo_294 : decode cX13_bringsTo 294 = .ok (.aload_n 0, 1) := by decide +kernel
theorem dX13_bringsTo_295 : decode cX13_bringsTo 295 = .ok (.getfield 99, 3) := by decide +kernel
theorem dX13_bringsTo_298 : decode cX13_bringsTo 298 = .ok (.iload 8, 2) := by decide +kernel
theorem dX13_bringsTo_300 : decode cX13_bringsTo 300 = .ok (.iaload, 1) := by decide +kernel
theorem dX13_bringsTo_301 : decode cX13_bringsTo 301 = .ok (.iastore, 1) := by decide +kernel
theorem dX13_bringsTo_302 : decode cX13_bringsTo 302 = .ok (.iload 4, 2) := by decide +kernel
theorem dX13_bringsTo_304 : decode cX13_bringsTo 304 = .ok (.aload_n 0, 1) := by decide +kernel
theorem dX13_bringsTo_305 : decode cX13_bringsTo 305 = .ok (.getfield 219, 3) := by decide +kernel
theorem dX13_bringsTo_308 : decode cX13_bringsTo 308 = .ok (.iload 8, 2) := by decide +kernel
theorem dX13_bringsTo_310 : decode cX13_bringsTo 310 = .ok (.iaload, 1) := by decide +kernel
theorem dX13_bringsTo_311 : decode cX13_bringsTo 311 = .ok (.iadd, 1) := by decide +kernel
theorem dX13_bringsTo_312 : decode cX13_bringsTo 312 = .ok (.istore 4, 2) := by decide +kernel
theorem dX13_bringsTo_314 : decode cX13_bringsTo 314 = .ok (.iload 5, 2) := by decide +kernel
theorem dX13_bringsTo_316 : decode cX13_bringsTo 316 = .ok (.aload_n 0, 1) := by decide +kernel
theorem dX13_bringsTo_317 : decode cX13_bringsTo 317 = .ok (.getfield 213, 3) := by decide +kernel
theorem dX13_bringsTo_320 : decode cX13_bringsTo 320 = .ok (.iload 8, 2) := by decide +kernel
theorem dX13_bringsTo_322 : decode cX13_bringsTo 322 = .ok (.iaload, 1) := by decide +kernel
theorem dX13_bringsTo_323 : decode cX13_bringsTo 323 = .ok (.iadd, 1) := by decide +kernel
theorem dX13_bringsTo_324 : decode cX13_bringsTo 324 = .ok (.istore 5, 2) := by decide +kernel
theorem dX13_bringsTo_326 : decode cX13_bringsTo 326 = .ok (.iload 6, 2) := by decide +kernel
theorem dX13_bringsTo_328 : decode cX13_bringsTo 328 = .ok (.aload_n 0, 1) := by decide +kernel
theorem dX13_bringsTo_329 : decode cX13_bringsTo 329 = .ok (.getfield 216, 3) := by decide +kernel
theorem dX13_bringsTo_332 : decode cX13_bringsTo 332 = .ok (.iload 8, 2) := by decide +kernel
theorem dX13_bringsTo_334 : decode cX13_bringsTo 334 = .ok (.iaload, 1) := by decide +kernel
theorem dX13_bringsTo_335 : decode cX13_bringsTo 335 = .ok (.iadd, 1) := by decide +kernel
theorem dX13_bringsTo_336 : decode cX13_bringsTo 336 = .ok (.istore 6, 2) := by decide +kernel
theorem dX13_bringsTo_338 : decode cX13_bringsTo 338 = .ok (.iinc 7 1, 3) := by decide +kernel
theorem dX13_bringsTo_341 : decode cX13_bringsTo 341 = .ok (.goto (-289), 3) := by decide +kernel
theorem dX13_bringsTo_344 : decode cX13_bringsTo 344 = .ok (.iconst (-1), 1) := by decide +kernel
theorem dX13_bringsTo_345 : decode cX13_bringsTo 345 = .ok (.istore 7, 2) := by decide +kernel
theorem dX13_bringsTo_347 : decode cX13_bringsTo 347 = .ok (.iconst 0, 1) := by decide +kernel
theorem dX13_bringsTo_348 : decode cX13_bringsTo 348 = .ok (.istore 8, 2) := by decide +kernel
theorem dX13_bringsTo_350 : decode cX13_bringsTo 350 = .ok (.iload 8, 2) := by decide +kernel
theorem dX13_bringsTo_352 : decode cX13_bringsTo 352 = .ok (.iload 6, 2) := by decide +kernel
theorem dX13_bringsTo_354 : decode cX13_bringsTo 354 = .ok (.if_icmp .gt 82, 3) := by decide +kernel
theorem dX13_bringsTo_357 : decode cX13_bringsTo 357 = .ok (.iload 8, 2) := by decide +kernel
theorem dX13_bringsTo_359 : decode cX13_bringsTo 359 = .ok (.iload 5, 2) := by decide +kernel
theorem dX13_bringsTo_361 : decode cX13_bringsTo 361 = .ok (.if_icmp .ge 6, 3) := by decide +kernel
theorem dX13_bringsTo_364 : decode cX13_bringsTo 364 = .ok (.goto 63, 3) := by decide +kernel
theorem dX13_bringsTo_367 : decode cX13_bringsTo 367 = .ok (.iload 8, 2) := by decide +kernel
theorem dX13_bringsTo_369 : decode cX13_bringsTo 369 = .ok (.iload 4, 2) := by decide +kernel
theorem dX13_bringsTo_371 : decode cX13_bringsTo 371 = .ok (.if_icmp .ge 11, 3) := by decide +kernel
theorem dX13_bringsTo_374 : decode cX13_bringsTo 374 = .ok (.iload 4, 2) := by decide +kernel
theorem dX13_bringsTo_376 : decode cX13_bringsTo 376 = .ok (.iload 8, 2) := by decide +kernel
theorem dX13_bringsTo_378 : decode cX13_bringsTo 378 = .ok (.isub, 1) := by decide +kernel
theorem dX13_bringsTo_379 : decode cX13_bringsTo 379 = .ok (.goto 8, 3) := by decide +kernel
theorem dX13_bringsTo_382 : decode cX13_bringsTo 382 = .ok (.iload 8, 2) := by decide +kernel
theorem dX13_bringsTo_384 : decode cX13_bringsTo 384 = .ok (.iload 4, 2) := by decide +kernel
theorem dX13_bringsTo_386 : decode cX13_bringsTo 386 = .ok (.isub, 1) := by decide +kernel
theorem dX13_bringsTo_387 : decode cX13_bringsTo 387 = .ok (.istore 9, 2) := by decide +kernel
theorem dX13_bringsTo_389 : decode cX13_bringsTo 389 = .ok (.iload 7, 2) := by decide +kernel
theorem dX13_bringsTo_391 : decode cX13_bringsTo 391 = .ok (.iconst (-1), 1) := by decide +kernel
theorem dX13_bringsTo_392 : decode cX13_bringsTo 392 = .ok (.if_icmp .eq 31, 3) := by decide +kernel
theorem dX13_bringsTo_395 : decode cX13_bringsTo 395 = .ok (.iload 9, 2) := by decide +kernel
