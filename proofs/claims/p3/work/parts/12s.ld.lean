theorem dLb_0 : (decode cL_law 0 = .ok (.new 7, 3)) ∧ (decode cL_law 3 = .ok (.dup, 1)) ∧ (decode cL_law 4 = .ok (.invokespecial 9, 3)) ∧ (decode cL_law 7 = .ok (.astore_n 1, 1)) ∧ (decode cL_law 8 = .ok (.new 10, 3)) ∧ (decode cL_law 11 = .ok (.dup, 1)) ∧ (decode cL_law 12 = .ok (.invokespecial 12, 3)) ∧ (decode cL_law 15 = .ok (.astore_n 2, 1)) ∧ (decode cL_law 16 = .ok (.iconst 0, 1)) ∧ (decode cL_law 17 = .ok (.istore_n 3, 1)) := by decide +kernel
theorem dL_law_0 : decode cL_law 0 = .ok (.new 7, 3) := dLb_0.1
theorem dL_law_3 : decode cL_law 3 = .ok (.dup, 1) := dLb_0.2.1
theorem dL_law_4 : decode cL_law 4 = .ok (.invokespecial 9, 3) := dLb_0.2.2.1
theorem dL_law_7 : decode cL_law 7 = .ok (.astore_n 1, 1) := dLb_0.2.2.2.1
theorem dL_law_8 : decode cL_law 8 = .ok (.new 10, 3) := dLb_0.2.2.2.2.1
theorem dL_law_11 : decode cL_law 11 = .ok (.dup, 1) := dLb_0.2.2.2.2.2.1
theorem dL_law_12 : decode cL_law 12 = .ok (.invokespecial 12, 3) := dLb_0.2.2.2.2.2.2.1
theorem dL_law_15 : decode cL_law 15 = .ok (.astore_n 2, 1) := dLb_0.2.2.2.2.2.2.2.1
theorem dL_law_16 : decode cL_law 16 = .ok (.iconst 0, 1) := dLb_0.2.2.2.2.2.2.2.2.1
theorem dL_law_17 : decode cL_law 17 = .ok (.istore_n 3, 1) := dLb_0.2.2.2.2.2.2.2.2.2
theorem dLb_1 : (decode cL_law 18 = .ok (.iload_n 3, 1)) ∧ (decode cL_law 19 = .ok (.aload_n 0, 1)) ∧ (decode cL_law 20 = .ok (.arraylength, 1)) ∧ (decode cL_law 21 = .ok (.bipush 6, 2)) ∧ (decode cL_law 23 = .ok (.isub, 1)) ∧ (decode cL_law 24 = .ok (.if_icmp .gt 1786, 3)) ∧ (decode cL_law 27 = .ok (.aload_n 0, 1)) ∧ (decode cL_law 28 = .ok (.iload_n 3, 1)) ∧ (decode cL_law 29 = .ok (.iaload, 1)) ∧ (decode cL_law 30 = .ok (.bipush 63, 2)) := by decide +kernel
theorem dL_law_18 : decode cL_law 18 = .ok (.iload_n 3, 1) := dLb_1.1
theorem dL_law_19 : decode cL_law 19 = .ok (.aload_n 0, 1) := dLb_1.2.1
theorem dL_law_20 : decode cL_law 20 = .ok (.arraylength, 1) := dLb_1.2.2.1
theorem dL_law_21 : decode cL_law 21 = .ok (.bipush 6, 2) := dLb_1.2.2.2.1
theorem dL_law_23 : decode cL_law 23 = .ok (.isub, 1) := dLb_1.2.2.2.2.1
theorem dL_law_24 : decode cL_law 24 = .ok (.if_icmp .gt 1786, 3) := dLb_1.2.2.2.2.2.1
theorem dL_law_27 : decode cL_law 27 = .ok (.aload_n 0, 1) := dLb_1.2.2.2.2.2.2.1
theorem dL_law_28 : decode cL_law 28 = .ok (.iload_n 3, 1) := dLb_1.2.2.2.2.2.2.2.1
theorem dL_law_29 : decode cL_law 29 = .ok (.iaload, 1) := dLb_1.2.2.2.2.2.2.2.2.1
theorem dL_law_30 : decode cL_law 30 = .ok (.bipush 63, 2) := dLb_1.2.2.2.2.2.2.2.2.2
theorem dLb_2 : (decode cL_law 32 = .ok (.iand, 1)) ∧ (decode cL_law 33 = .ok (.tableswitch 1771 0 47 #[207, 270, 293, 306, 319, 352, 395, 418, 451, 504, 557, 620, 653, 676, 699, 722, 755, 788, 831, 864, 897, 940, 963, 986, 1029, 1072, 1105, 1128, 1151, 1194, 1217, 1250, 1273, 1296, 1319, 1342, 1365, 1408, 1441, 1474, 1507, 1550, 1603, 1646, 1669, 1682, 1715, 1748], 207)) ∧ (decode cL_law 240 = .ok (.aload_n 1, 1)) ∧ (decode cL_law 241 = .ok (.aload_n 0, 1)) ∧ (decode cL_law 242 = .ok (.iload_n 3, 1)) ∧ (decode cL_law 243 = .ok (.iconst 1, 1)) ∧ (decode cL_law 244 = .ok (.iadd, 1)) ∧ (decode cL_law 245 = .ok (.iaload, 1)) ∧ (decode cL_law 246 = .ok (.aload_n 0, 1)) ∧ (decode cL_law 247 = .ok (.iload_n 3, 1)) := by decide +kernel
theorem dL_law_32 : decode cL_law 32 = .ok (.iand, 1) := dLb_2.1
theorem dL_law_33 : decode cL_law 33 = .ok (.tableswitch 1771 0 47 #[207, 270, 293, 306, 319, 352, 395, 418, 451, 504, 557, 620, 653, 676, 699, 722, 755, 788, 831, 864, 897, 940, 963, 986, 1029, 1072, 1105, 1128, 1151, 1194, 1217, 1250, 1273, 1296, 1319, 1342, 1365, 1408, 1441, 1474, 1507, 1550, 1603, 1646, 1669, 1682, 1715, 1748], 207) := dLb_2.2.1
theorem dL_law_240 : decode cL_law 240 = .ok (.aload_n 1, 1) := dLb_2.2.2.1
theorem dL_law_241 : decode cL_law 241 = .ok (.aload_n 0, 1) := dLb_2.2.2.2.1
theorem dL_law_242 : decode cL_law 242 = .ok (.iload_n 3, 1) := dLb_2.2.2.2.2.1
theorem dL_law_243 : decode cL_law 243 = .ok (.iconst 1, 1) := dLb_2.2.2.2.2.2.1
theorem dL_law_244 : decode cL_law 244 = .ok (.iadd, 1) := dLb_2.2.2.2.2.2.2.1
theorem dL_law_245 : decode cL_law 245 = .ok (.iaload, 1) := dLb_2.2.2.2.2.2.2.2.1
theorem dL_law_246 : decode cL_law 246 = .ok (.aload_n 0, 1) := dLb_2.2.2.2.2.2.2.2.2.1
theorem dL_law_247 : decode cL_law 247 = .ok (.iload_n 3, 1) := dLb_2.2.2.2.2.2.2.2.2.2
theorem dLb_3 : (decode cL_law 248 = .ok (.iconst 2, 1)) ∧ (decode cL_law 249 = .ok (.iadd, 1)) ∧ (decode cL_law 250 = .ok (.iaload, 1)) ∧ (decode cL_law 251 = .ok (.aload_n 0, 1)) ∧ (decode cL_law 252 = .ok (.iload_n 3, 1)) ∧ (decode cL_law 253 = .ok (.iconst 3, 1)) ∧ (decode cL_law 254 = .ok (.iadd, 1)) ∧ (decode cL_law 255 = .ok (.iaload, 1)) ∧ (decode cL_law 256 = .ok (.aload_n 0, 1)) ∧ (decode cL_law 257 = .ok (.iload_n 3, 1)) := by decide +kernel
theorem dL_law_248 : decode cL_law 248 = .ok (.iconst 2, 1) := dLb_3.1
theorem dL_law_249 : decode cL_law 249 = .ok (.iadd, 1) := dLb_3.2.1
theorem dL_law_250 : decode cL_law 250 = .ok (.iaload, 1) := dLb_3.2.2.1
theorem dL_law_251 : decode cL_law 251 = .ok (.aload_n 0, 1) := dLb_3.2.2.2.1
theorem dL_law_252 : decode cL_law 252 = .ok (.iload_n 3, 1) := dLb_3.2.2.2.2.1
theorem dL_law_253 : decode cL_law 253 = .ok (.iconst 3, 1) := dLb_3.2.2.2.2.2.1
theorem dL_law_254 : decode cL_law 254 = .ok (.iadd, 1) := dLb_3.2.2.2.2.2.2.1
theorem dL_law_255 : decode cL_law 255 = .ok (.iaload, 1) := dLb_3.2.2.2.2.2.2.2.1
theorem dL_law_256 : decode cL_law 256 = .ok (.aload_n 0, 1) := dLb_3.2.2.2.2.2.2.2.2.1
theorem dL_law_257 : decode cL_law 257 = .ok (.iload_n 3, 1) := dLb_3.2.2.2.2.2.2.2.2.2
theorem dLb_4 : (decode cL_law 258 = .ok (.iconst 4, 1)) ∧ (decode cL_law 259 = .ok (.iadd, 1)) ∧ (decode cL_law 260 = .ok (.iaload, 1)) ∧ (decode cL_law 261 = .ok (.aload_n 0, 1)) ∧ (decode cL_law 262 = .ok (.iload_n 3, 1)) ∧ (decode cL_law 263 = .ok (.iconst 5, 1)) ∧ (decode cL_law 264 = .ok (.iadd, 1)) ∧ (decode cL_law 265 = .ok (.iaload, 1)) ∧ (decode cL_law 266 = .ok (.invokevirtual 13, 3)) ∧ (decode cL_law 269 = .ok (.pop, 1)) := by decide +kernel
theorem dL_law_258 : decode cL_law 258 = .ok (.iconst 4, 1) := dLb_4.1
theorem dL_law_259 : decode cL_law 259 = .ok (.iadd, 1) := dLb_4.2.1
theorem dL_law_260 : decode cL_law 260 = .ok (.iaload, 1) := dLb_4.2.2.1
theorem dL_law_261 : decode cL_law 261 = .ok (.aload_n 0, 1) := dLb_4.2.2.2.1
theorem dL_law_262 : decode cL_law 262 = .ok (.iload_n 3, 1) := dLb_4.2.2.2.2.1
theorem dL_law_263 : decode cL_law 263 = .ok (.iconst 5, 1) := dLb_4.2.2.2.2.2.1
theorem dL_law_264 : decode cL_law 264 = .ok (.iadd, 1) := dLb_4.2.2.2.2.2.2.1
theorem dL_law_265 : decode cL_law 265 = .ok (.iaload, 1) := dLb_4.2.2.2.2.2.2.2.1
theorem dL_law_266 : decode cL_law 266 = .ok (.invokevirtual 13, 3) := dLb_4.2.2.2.2.2.2.2.2.1
theorem dL_law_269 : decode cL_law 269 = .ok (.pop, 1) := dLb_4.2.2.2.2.2.2.2.2.2
theorem dLb_5 : (decode cL_law 270 = .ok (.aload_n 2, 1)) ∧ (decode cL_law 271 = .ok (.aload_n 0, 1)) ∧ (decode cL_law 272 = .ok (.iload_n 3, 1)) ∧ (decode cL_law 273 = .ok (.iconst 1, 1)) ∧ (decode cL_law 274 = .ok (.iadd, 1)) ∧ (decode cL_law 275 = .ok (.iaload, 1)) ∧ (decode cL_law 276 = .ok (.aload_n 0, 1)) ∧ (decode cL_law 277 = .ok (.iload_n 3, 1)) ∧ (decode cL_law 278 = .ok (.iconst 2, 1)) ∧ (decode cL_law 279 = .ok (.iadd, 1)) := by decide +kernel
theorem dL_law_270 : decode cL_law 270 = .ok (.aload_n 2, 1) := dLb_5.1
theorem dL_law_271 : decode cL_law 271 = .ok (.aload_n 0, 1) := dLb_5.2.1
theorem dL_law_272 : decode cL_law 272 = .ok (.iload_n 3, 1) := dLb_5.2.2.1
theorem dL_law_273 : decode cL_law 273 = .ok (.iconst 1, 1) := dLb_5.2.2.2.1
theorem dL_law_274 : decode cL_law 274 = .ok (.iadd, 1) := dLb_5.2.2.2.2.1
theorem dL_law_275 : decode cL_law 275 = .ok (.iaload, 1) := dLb_5.2.2.2.2.2.1
theorem dL_law_276 : decode cL_law 276 = .ok (.aload_n 0, 1) := dLb_5.2.2.2.2.2.2.1
theorem dL_law_277 : decode cL_law 277 = .ok (.iload_n 3, 1) := dLb_5.2.2.2.2.2.2.2.1
theorem dL_law_278 : decode cL_law 278 = .ok (.iconst 2, 1) := dLb_5.2.2.2.2.2.2.2.2.1
theorem dL_law_279 : decode cL_law 279 = .ok (.iadd, 1) := dLb_5.2.2.2.2.2.2.2.2.2
theorem dLb_6 : (decode cL_law 280 = .ok (.iaload, 1)) ∧ (decode cL_law 281 = .ok (.aload_n 0, 1)) ∧ (decode cL_law 282 = .ok (.iload_n 3, 1)) ∧ (decode cL_law 283 = .ok (.iconst 3, 1)) ∧ (decode cL_law 284 = .ok (.iadd, 1)) ∧ (decode cL_law 285 = .ok (.iaload, 1)) ∧ (decode cL_law 286 = .ok (.aload_n 0, 1)) ∧ (decode cL_law 287 = .ok (.iload_n 3, 1)) ∧ (decode cL_law 288 = .ok (.iconst 4, 1)) ∧ (decode cL_law 289 = .ok (.iadd, 1)) := by decide +kernel
theorem dL_law_280 : decode cL_law 280 = .ok (.iaload, 1) := dLb_6.1
theorem dL_law_281 : decode cL_law 281 = .ok (.aload_n 0, 1) := dLb_6.2.1
theorem dL_law_282 : decode cL_law 282 = .ok (.iload_n 3, 1) := dLb_6.2.2.1
theorem dL_law_283 : decode cL_law 283 = .ok (.iconst 3, 1) := dLb_6.2.2.2.1
theorem dL_law_284 : decode cL_law 284 = .ok (.iadd, 1) := dLb_6.2.2.2.2.1
theorem dL_law_285 : decode cL_law 285 = .ok (.iaload, 1) := dLb_6.2.2.2.2.2.1
theorem dL_law_286 : decode cL_law 286 = .ok (.aload_n 0, 1) := dLb_6.2.2.2.2.2.2.1
theorem dL_law_287 : decode cL_law 287 = .ok (.iload_n 3, 1) := dLb_6.2.2.2.2.2.2.2.1
theorem dL_law_288 : decode cL_law 288 = .ok (.iconst 4, 1) := dLb_6.2.2.2.2.2.2.2.2.1
theorem dL_law_289 : decode cL_law 289 = .ok (.iadd, 1) := dLb_6.2.2.2.2.2.2.2.2.2
theorem dLb_7 : (decode cL_law 290 = .ok (.iaload, 1)) ∧ (decode cL_law 291 = .ok (.aload_n 0, 1)) ∧ (decode cL_law 292 = .ok (.iload_n 3, 1)) ∧ (decode cL_law 293 = .ok (.iconst 5, 1)) ∧ (decode cL_law 294 = .ok (.iadd, 1)) ∧ (decode cL_law 295 = .ok (.iaload, 1)) ∧ (decode cL_law 296 = .ok (.invokevirtual 17, 3)) ∧ (decode cL_law 299 = .ok (.pop, 1)) ∧ (decode cL_law 300 = .ok (.goto 1504, 3)) ∧ (decode cL_law 303 = .ok (.aload_n 1, 1)) := by decide +kernel
theorem dL_law_290 : decode cL_law 290 = .ok (.iaload, 1) := dLb_7.1
theorem dL_law_291 : decode cL_law 291 = .ok (.aload_n 0, 1) := dLb_7.2.1
theorem dL_law_292 : decode cL_law 292 = .ok (.iload_n 3, 1) := dLb_7.2.2.1
theorem dL_law_293 : decode cL_law 293 = .ok (.iconst 5, 1) := dLb_7.2.2.2.1
theorem dL_law_294 : decode cL_law 294 = .ok (.iadd, 1) := dLb_7.2.2.2.2.1
theorem dL_law_295 : decode cL_law 295 = .ok (.iaload, 1) := dLb_7.2.2.2.2.2.1
theorem dL_law_296 : decode cL_law 296 = .ok (.invokevirtual 17, 3) := dLb_7.2.2.2.2.2.2.1
theorem dL_law_299 : decode cL_law 299 = .ok (.pop, 1) := dLb_7.2.2.2.2.2.2.2.1
theorem dL_law_300 : decode cL_law 300 = .ok (.goto 1504, 3) := dLb_7.2.2.2.2.2.2.2.2.1
theorem dL_law_303 : decode cL_law 303 = .ok (.aload_n 1, 1) := dLb_7.2.2.2.2.2.2.2.2.2
theorem dLb_8 : (decode cL_law 304 = .ok (.aload_n 0, 1)) ∧ (decode cL_law 305 = .ok (.iload_n 3, 1)) ∧ (decode cL_law 306 = .ok (.iconst 1, 1)) ∧ (decode cL_law 307 = .ok (.iadd, 1)) ∧ (decode cL_law 308 = .ok (.iaload, 1)) ∧ (decode cL_law 309 = .ok (.invokevirtual 18, 3)) ∧ (decode cL_law 312 = .ok (.aload_n 2, 1)) ∧ (decode cL_law 313 = .ok (.aload_n 0, 1)) ∧ (decode cL_law 314 = .ok (.iload_n 3, 1)) ∧ (decode cL_law 315 = .ok (.iconst 1, 1)) := by decide +kernel
theorem dL_law_304 : decode cL_law 304 = .ok (.aload_n 0, 1) := dLb_8.1
theorem dL_law_305 : decode cL_law 305 = .ok (.iload_n 3, 1) := dLb_8.2.1
theorem dL_law_306 : decode cL_law 306 = .ok (.iconst 1, 1) := dLb_8.2.2.1
theorem dL_law_307 : decode cL_law 307 = .ok (.iadd, 1) := dLb_8.2.2.2.1
theorem dL_law_308 : decode cL_law 308 = .ok (.iaload, 1) := dLb_8.2.2.2.2.1
theorem dL_law_309 : decode cL_law 309 = .ok (.invokevirtual 18, 3) := dLb_8.2.2.2.2.2.1
theorem dL_law_312 : decode cL_law 312 = .ok (.aload_n 2, 1) := dLb_8.2.2.2.2.2.2.1
theorem dL_law_313 : decode cL_law 313 = .ok (.aload_n 0, 1) := dLb_8.2.2.2.2.2.2.2.1
theorem dL_law_314 : decode cL_law 314 = .ok (.iload_n 3, 1) := dLb_8.2.2.2.2.2.2.2.2.1
theorem dL_law_315 : decode cL_law 315 = .ok (.iconst 1, 1) := dLb_8.2.2.2.2.2.2.2.2.2
theorem dLb_9 : (decode cL_law 316 = .ok (.iadd, 1)) ∧ (decode cL_law 317 = .ok (.iaload, 1)) ∧ (decode cL_law 318 = .ok (.invokevirtual 22, 3)) ∧ (decode cL_law 321 = .ok (.if_icmp .eq 1483, 3)) ∧ (decode cL_law 324 = .ok (.iconst 0, 1)) ∧ (decode cL_law 325 = .ok (.ireturn, 1)) ∧ (decode cL_law 326 = .ok (.aload_n 1, 1)) ∧ (decode cL_law 327 = .ok (.invokevirtual 23, 3)) ∧ (decode cL_law 330 = .ok (.pop, 1)) ∧ (decode cL_law 331 = .ok (.aload_n 2, 1)) := by decide +kernel
theorem dL_law_316 : decode cL_law 316 = .ok (.iadd, 1) := dLb_9.1
theorem dL_law_317 : decode cL_law 317 = .ok (.iaload, 1) := dLb_9.2.1
theorem dL_law_318 : decode cL_law 318 = .ok (.invokevirtual 22, 3) := dLb_9.2.2.1
theorem dL_law_321 : decode cL_law 321 = .ok (.if_icmp .eq 1483, 3) := dLb_9.2.2.2.1
theorem dL_law_324 : decode cL_law 324 = .ok (.iconst 0, 1) := dLb_9.2.2.2.2.1
theorem dL_law_325 : decode cL_law 325 = .ok (.ireturn, 1) := dLb_9.2.2.2.2.2.1
theorem dL_law_326 : decode cL_law 326 = .ok (.aload_n 1, 1) := dLb_9.2.2.2.2.2.2.1
theorem dL_law_327 : decode cL_law 327 = .ok (.invokevirtual 23, 3) := dLb_9.2.2.2.2.2.2.2.1
theorem dL_law_330 : decode cL_law 330 = .ok (.pop, 1) := dLb_9.2.2.2.2.2.2.2.2.1
theorem dL_law_331 : decode cL_law 331 = .ok (.aload_n 2, 1) := dLb_9.2.2.2.2.2.2.2.2.2
theorem dLb_10 : (decode cL_law 332 = .ok (.invokevirtual 27, 3)) ∧ (decode cL_law 335 = .ok (.pop, 1)) ∧ (decode cL_law 336 = .ok (.goto 1468, 3)) ∧ (decode cL_law 339 = .ok (.aload_n 1, 1)) ∧ (decode cL_law 340 = .ok (.invokevirtual 28, 3)) ∧ (decode cL_law 343 = .ok (.pop, 1)) ∧ (decode cL_law 344 = .ok (.aload_n 2, 1)) ∧ (decode cL_law 345 = .ok (.invokevirtual 31, 3)) ∧ (decode cL_law 348 = .ok (.pop, 1)) ∧ (decode cL_law 349 = .ok (.goto 1455, 3)) := by decide +kernel
theorem dL_law_332 : decode cL_law 332 = .ok (.invokevirtual 27, 3) := dLb_10.1
theorem dL_law_335 : decode cL_law 335 = .ok (.pop, 1) := dLb_10.2.1
theorem dL_law_336 : decode cL_law 336 = .ok (.goto 1468, 3) := dLb_10.2.2.1
theorem dL_law_339 : decode cL_law 339 = .ok (.aload_n 1, 1) := dLb_10.2.2.2.1
theorem dL_law_340 : decode cL_law 340 = .ok (.invokevirtual 28, 3) := dLb_10.2.2.2.2.1
theorem dL_law_343 : decode cL_law 343 = .ok (.pop, 1) := dLb_10.2.2.2.2.2.1
theorem dL_law_344 : decode cL_law 344 = .ok (.aload_n 2, 1) := dLb_10.2.2.2.2.2.2.1
theorem dL_law_345 : decode cL_law 345 = .ok (.invokevirtual 31, 3) := dLb_10.2.2.2.2.2.2.2.1
theorem dL_law_348 : decode cL_law 348 = .ok (.pop, 1) := dLb_10.2.2.2.2.2.2.2.2.1
theorem dL_law_349 : decode cL_law 349 = .ok (.goto 1455, 3) := dLb_10.2.2.2.2.2.2.2.2.2
theorem dLb_11 : (decode cL_law 352 = .ok (.aload_n 1, 1)) ∧ (decode cL_law 353 = .ok (.aload_n 0, 1)) ∧ (decode cL_law 354 = .ok (.iload_n 3, 1)) ∧ (decode cL_law 355 = .ok (.iconst 1, 1)) ∧ (decode cL_law 356 = .ok (.iadd, 1)) ∧ (decode cL_law 357 = .ok (.iaload, 1)) ∧ (decode cL_law 358 = .ok (.aload_n 0, 1)) ∧ (decode cL_law 359 = .ok (.iload_n 3, 1)) ∧ (decode cL_law 360 = .ok (.iconst 2, 1)) ∧ (decode cL_law 361 = .ok (.iadd, 1)) := by decide +kernel
theorem dL_law_352 : decode cL_law 352 = .ok (.aload_n 1, 1) := dLb_11.1
theorem dL_law_353 : decode cL_law 353 = .ok (.aload_n 0, 1) := dLb_11.2.1
theorem dL_law_354 : decode cL_law 354 = .ok (.iload_n 3, 1) := dLb_11.2.2.1
theorem dL_law_355 : decode cL_law 355 = .ok (.iconst 1, 1) := dLb_11.2.2.2.1
theorem dL_law_356 : decode cL_law 356 = .ok (.iadd, 1) := dLb_11.2.2.2.2.1
theorem dL_law_357 : decode cL_law 357 = .ok (.iaload, 1) := dLb_11.2.2.2.2.2.1
theorem dL_law_358 : decode cL_law 358 = .ok (.aload_n 0, 1) := dLb_11.2.2.2.2.2.2.1
theorem dL_law_359 : decode cL_law 359 = .ok (.iload_n 3, 1) := dLb_11.2.2.2.2.2.2.2.1
theorem dL_law_360 : decode cL_law 360 = .ok (.iconst 2, 1) := dLb_11.2.2.2.2.2.2.2.2.1
theorem dL_law_361 : decode cL_law 361 = .ok (.iadd, 1) := dLb_11.2.2.2.2.2.2.2.2.2
theorem dLb_12 : (decode cL_law 362 = .ok (.iaload, 1)) ∧ (decode cL_law 363 = .ok (.invokevirtual 32, 3)) ∧ (decode cL_law 366 = .ok (.pop, 1)) ∧ (decode cL_law 367 = .ok (.aload_n 2, 1)) ∧ (decode cL_law 368 = .ok (.aload_n 0, 1)) ∧ (decode cL_law 369 = .ok (.iload_n 3, 1)) ∧ (decode cL_law 370 = .ok (.iconst 1, 1)) ∧ (decode cL_law 371 = .ok (.iadd, 1)) ∧ (decode cL_law 372 = .ok (.iaload, 1)) ∧ (decode cL_law 373 = .ok (.aload_n 0, 1)) := by decide +kernel
theorem dL_law_362 : decode cL_law 362 = .ok (.iaload, 1) := dLb_12.1
theorem dL_law_363 : decode cL_law 363 = .ok (.invokevirtual 32, 3) := dLb_12.2.1
theorem dL_law_366 : decode cL_law 366 = .ok (.pop, 1) := dLb_12.2.2.1
theorem dL_law_367 : decode cL_law 367 = .ok (.aload_n 2, 1) := dLb_12.2.2.2.1
theorem dL_law_368 : decode cL_law 368 = .ok (.aload_n 0, 1) := dLb_12.2.2.2.2.1
theorem dL_law_369 : decode cL_law 369 = .ok (.iload_n 3, 1) := dLb_12.2.2.2.2.2.1
theorem dL_law_370 : decode cL_law 370 = .ok (.iconst 1, 1) := dLb_12.2.2.2.2.2.2.1
theorem dL_law_371 : decode cL_law 371 = .ok (.iadd, 1) := dLb_12.2.2.2.2.2.2.2.1
theorem dL_law_372 : decode cL_law 372 = .ok (.iaload, 1) := dLb_12.2.2.2.2.2.2.2.2.1
theorem dL_law_373 : decode cL_law 373 = .ok (.aload_n 0, 1) := dLb_12.2.2.2.2.2.2.2.2.2
theorem dLb_13 : (decode cL_law 374 = .ok (.iload_n 3, 1)) ∧ (decode cL_law 375 = .ok (.iconst 2, 1)) ∧ (decode cL_law 376 = .ok (.iadd, 1)) ∧ (decode cL_law 377 = .ok (.iaload, 1)) ∧ (decode cL_law 378 = .ok (.invokevirtual 36, 3)) ∧ (decode cL_law 381 = .ok (.pop, 1)) ∧ (decode cL_law 382 = .ok (.goto 1422, 3)) ∧ (decode cL_law 385 = .ok (.aload_n 1, 1)) ∧ (decode cL_law 386 = .ok (.aload_n 0, 1)) ∧ (decode cL_law 387 = .ok (.iload_n 3, 1)) := by decide +kernel
theorem dL_law_374 : decode cL_law 374 = .ok (.iload_n 3, 1) := dLb_13.1
theorem dL_law_375 : decode cL_law 375 = .ok (.iconst 2, 1) := dLb_13.2.1
theorem dL_law_376 : decode cL_law 376 = .ok (.iadd, 1) := dLb_13.2.2.1
theorem dL_law_377 : decode cL_law 377 = .ok (.iaload, 1) := dLb_13.2.2.2.1
theorem dL_law_378 : decode cL_law 378 = .ok (.invokevirtual 36, 3) := dLb_13.2.2.2.2.1
theorem dL_law_381 : decode cL_law 381 = .ok (.pop, 1) := dLb_13.2.2.2.2.2.1
theorem dL_law_382 : decode cL_law 382 = .ok (.goto 1422, 3) := dLb_13.2.2.2.2.2.2.1
theorem dL_law_385 : decode cL_law 385 = .ok (.aload_n 1, 1) := dLb_13.2.2.2.2.2.2.2.1
theorem dL_law_386 : decode cL_law 386 = .ok (.aload_n 0, 1) := dLb_13.2.2.2.2.2.2.2.2.1
theorem dL_law_387 : decode cL_law 387 = .ok (.iload_n 3, 1) := dLb_13.2.2.2.2.2.2.2.2.2
theorem dLb_14 : (decode cL_law 388 = .ok (.iconst 1, 1)) ∧ (decode cL_law 389 = .ok (.iadd, 1)) ∧ (decode cL_law 390 = .ok (.iaload, 1)) ∧ (decode cL_law 391 = .ok (.aload_n 0, 1)) ∧ (decode cL_law 392 = .ok (.iload_n 3, 1)) ∧ (decode cL_law 393 = .ok (.iconst 2, 1)) ∧ (decode cL_law 394 = .ok (.iadd, 1)) ∧ (decode cL_law 395 = .ok (.iaload, 1)) ∧ (decode cL_law 396 = .ok (.aload_n 0, 1)) ∧ (decode cL_law 397 = .ok (.iload_n 3, 1)) := by decide +kernel
theorem dL_law_388 : decode cL_law 388 = .ok (.iconst 1, 1) := dLb_14.1
theorem dL_law_389 : decode cL_law 389 = .ok (.iadd, 1) := dLb_14.2.1
theorem dL_law_390 : decode cL_law 390 = .ok (.iaload, 1) := dLb_14.2.2.1
theorem dL_law_391 : decode cL_law 391 = .ok (.aload_n 0, 1) := dLb_14.2.2.2.1
theorem dL_law_392 : decode cL_law 392 = .ok (.iload_n 3, 1) := dLb_14.2.2.2.2.1
theorem dL_law_393 : decode cL_law 393 = .ok (.iconst 2, 1) := dLb_14.2.2.2.2.2.1
theorem dL_law_394 : decode cL_law 394 = .ok (.iadd, 1) := dLb_14.2.2.2.2.2.2.1
theorem dL_law_395 : decode cL_law 395 = .ok (.iaload, 1) := dLb_14.2.2.2.2.2.2.2.1
theorem dL_law_396 : decode cL_law 396 = .ok (.aload_n 0, 1) := dLb_14.2.2.2.2.2.2.2.2.1
theorem dL_law_397 : decode cL_law 397 = .ok (.iload_n 3, 1) := dLb_14.2.2.2.2.2.2.2.2.2
theorem dLb_15 : (decode cL_law 398 = .ok (.iconst 3, 1)) ∧ (decode cL_law 399 = .ok (.iadd, 1)) ∧ (decode cL_law 400 = .ok (.iaload, 1)) ∧ (decode cL_law 401 = .ok (.invokevirtual 37, 3)) ∧ (decode cL_law 404 = .ok (.pop, 1)) ∧ (decode cL_law 405 = .ok (.aload_n 2, 1)) ∧ (decode cL_law 406 = .ok (.aload_n 0, 1)) ∧ (decode cL_law 407 = .ok (.iload_n 3, 1)) ∧ (decode cL_law 408 = .ok (.iconst 1, 1)) ∧ (decode cL_law 409 = .ok (.iadd, 1)) := by decide +kernel
theorem dL_law_398 : decode cL_law 398 = .ok (.iconst 3, 1) := dLb_15.1
theorem dL_law_399 : decode cL_law 399 = .ok (.iadd, 1) := dLb_15.2.1
theorem dL_law_400 : decode cL_law 400 = .ok (.iaload, 1) := dLb_15.2.2.1
theorem dL_law_401 : decode cL_law 401 = .ok (.invokevirtual 37, 3) := dLb_15.2.2.2.1
theorem dL_law_404 : decode cL_law 404 = .ok (.pop, 1) := dLb_15.2.2.2.2.1
theorem dL_law_405 : decode cL_law 405 = .ok (.aload_n 2, 1) := dLb_15.2.2.2.2.2.1
theorem dL_law_406 : decode cL_law 406 = .ok (.aload_n 0, 1) := dLb_15.2.2.2.2.2.2.1
theorem dL_law_407 : decode cL_law 407 = .ok (.iload_n 3, 1) := dLb_15.2.2.2.2.2.2.2.1
theorem dL_law_408 : decode cL_law 408 = .ok (.iconst 1, 1) := dLb_15.2.2.2.2.2.2.2.2.1
theorem dL_law_409 : decode cL_law 409 = .ok (.iadd, 1) := dLb_15.2.2.2.2.2.2.2.2.2
theorem dLb_16 : (decode cL_law 410 = .ok (.iaload, 1)) ∧ (decode cL_law 411 = .ok (.aload_n 0, 1)) ∧ (decode cL_law 412 = .ok (.iload_n 3, 1)) ∧ (decode cL_law 413 = .ok (.iconst 2, 1)) ∧ (decode cL_law 414 = .ok (.iadd, 1)) ∧ (decode cL_law 415 = .ok (.iaload, 1)) ∧ (decode cL_law 416 = .ok (.aload_n 0, 1)) ∧ (decode cL_law 417 = .ok (.iload_n 3, 1)) ∧ (decode cL_law 418 = .ok (.iconst 3, 1)) ∧ (decode cL_law 419 = .ok (.iadd, 1)) := by decide +kernel
theorem dL_law_410 : decode cL_law 410 = .ok (.iaload, 1) := dLb_16.1
theorem dL_law_411 : decode cL_law 411 = .ok (.aload_n 0, 1) := dLb_16.2.1
theorem dL_law_412 : decode cL_law 412 = .ok (.iload_n 3, 1) := dLb_16.2.2.1
theorem dL_law_413 : decode cL_law 413 = .ok (.iconst 2, 1) := dLb_16.2.2.2.1
theorem dL_law_414 : decode cL_law 414 = .ok (.iadd, 1) := dLb_16.2.2.2.2.1
theorem dL_law_415 : decode cL_law 415 = .ok (.iaload, 1) := dLb_16.2.2.2.2.2.1
theorem dL_law_416 : decode cL_law 416 = .ok (.aload_n 0, 1) := dLb_16.2.2.2.2.2.2.1
theorem dL_law_417 : decode cL_law 417 = .ok (.iload_n 3, 1) := dLb_16.2.2.2.2.2.2.2.1
theorem dL_law_418 : decode cL_law 418 = .ok (.iconst 3, 1) := dLb_16.2.2.2.2.2.2.2.2.1
theorem dL_law_419 : decode cL_law 419 = .ok (.iadd, 1) := dLb_16.2.2.2.2.2.2.2.2.2
theorem dLb_17 : (decode cL_law 420 = .ok (.iaload, 1)) ∧ (decode cL_law 421 = .ok (.invokevirtual 41, 3)) ∧ (decode cL_law 424 = .ok (.pop, 1)) ∧ (decode cL_law 425 = .ok (.goto 1379, 3)) ∧ (decode cL_law 428 = .ok (.aload_n 1, 1)) ∧ (decode cL_law 429 = .ok (.aload_n 0, 1)) ∧ (decode cL_law 430 = .ok (.iload_n 3, 1)) ∧ (decode cL_law 431 = .ok (.iconst 1, 1)) ∧ (decode cL_law 432 = .ok (.iadd, 1)) ∧ (decode cL_law 433 = .ok (.iaload, 1)) := by decide +kernel
theorem dL_law_420 : decode cL_law 420 = .ok (.iaload, 1) := dLb_17.1
theorem dL_law_421 : decode cL_law 421 = .ok (.invokevirtual 41, 3) := dLb_17.2.1
theorem dL_law_424 : decode cL_law 424 = .ok (.pop, 1) := dLb_17.2.2.1
theorem dL_law_425 : decode cL_law 425 = .ok (.goto 1379, 3) := dLb_17.2.2.2.1
theorem dL_law_428 : decode cL_law 428 = .ok (.aload_n 1, 1) := dLb_17.2.2.2.2.1
theorem dL_law_429 : decode cL_law 429 = .ok (.aload_n 0, 1) := dLb_17.2.2.2.2.2.1
theorem dL_law_430 : decode cL_law 430 = .ok (.iload_n 3, 1) := dLb_17.2.2.2.2.2.2.1
theorem dL_law_431 : decode cL_law 431 = .ok (.iconst 1, 1) := dLb_17.2.2.2.2.2.2.2.1
theorem dL_law_432 : decode cL_law 432 = .ok (.iadd, 1) := dLb_17.2.2.2.2.2.2.2.2.1
theorem dL_law_433 : decode cL_law 433 = .ok (.iaload, 1) := dLb_17.2.2.2.2.2.2.2.2.2
theorem dLb_18 : (decode cL_law 434 = .ok (.invokevirtual 42, 3)) ∧ (decode cL_law 437 = .ok (.pop, 1)) ∧ (decode cL_law 438 = .ok (.aload_n 2, 1)) ∧ (decode cL_law 439 = .ok (.aload_n 0, 1)) ∧ (decode cL_law 440 = .ok (.iload_n 3, 1)) ∧ (decode cL_law 441 = .ok (.iconst 1, 1)) ∧ (decode cL_law 442 = .ok (.iadd, 1)) ∧ (decode cL_law 443 = .ok (.iaload, 1)) ∧ (decode cL_law 444 = .ok (.invokevirtual 46, 3)) ∧ (decode cL_law 447 = .ok (.pop, 1)) := by decide +kernel
theorem dL_law_434 : decode cL_law 434 = .ok (.invokevirtual 42, 3) := dLb_18.1
theorem dL_law_437 : decode cL_law 437 = .ok (.pop, 1) := dLb_18.2.1
theorem dL_law_438 : decode cL_law 438 = .ok (.aload_n 2, 1) := dLb_18.2.2.1
theorem dL_law_439 : decode cL_law 439 = .ok (.aload_n 0, 1) := dLb_18.2.2.2.1
theorem dL_law_440 : decode cL_law 440 = .ok (.iload_n 3, 1) := dLb_18.2.2.2.2.1
theorem dL_law_441 : decode cL_law 441 = .ok (.iconst 1, 1) := dLb_18.2.2.2.2.2.1
theorem dL_law_442 : decode cL_law 442 = .ok (.iadd, 1) := dLb_18.2.2.2.2.2.2.1
theorem dL_law_443 : decode cL_law 443 = .ok (.iaload, 1) := dLb_18.2.2.2.2.2.2.2.1
theorem dL_law_444 : decode cL_law 444 = .ok (.invokevirtual 46, 3) := dLb_18.2.2.2.2.2.2.2.2.1
theorem dL_law_447 : decode cL_law 447 = .ok (.pop, 1) := dLb_18.2.2.2.2.2.2.2.2.2
theorem dLb_19 : (decode cL_law 448 = .ok (.goto 1356, 3)) ∧ (decode cL_law 451 = .ok (.aload_n 1, 1)) ∧ (decode cL_law 452 = .ok (.aload_n 0, 1)) ∧ (decode cL_law 453 = .ok (.iload_n 3, 1)) ∧ (decode cL_law 454 = .ok (.iconst 1, 1)) ∧ (decode cL_law 455 = .ok (.iadd, 1)) ∧ (decode cL_law 456 = .ok (.iaload, 1)) ∧ (decode cL_law 457 = .ok (.aload_n 0, 1)) ∧ (decode cL_law 458 = .ok (.iload_n 3, 1)) ∧ (decode cL_law 459 = .ok (.iconst 2, 1)) := by decide +kernel
theorem dL_law_448 : decode cL_law 448 = .ok (.goto 1356, 3) := dLb_19.1
theorem dL_law_451 : decode cL_law 451 = .ok (.aload_n 1, 1) := dLb_19.2.1
theorem dL_law_452 : decode cL_law 452 = .ok (.aload_n 0, 1) := dLb_19.2.2.1
theorem dL_law_453 : decode cL_law 453 = .ok (.iload_n 3, 1) := dLb_19.2.2.2.1
theorem dL_law_454 : decode cL_law 454 = .ok (.iconst 1, 1) := dLb_19.2.2.2.2.1
theorem dL_law_455 : decode cL_law 455 = .ok (.iadd, 1) := dLb_19.2.2.2.2.2.1
theorem dL_law_456 : decode cL_law 456 = .ok (.iaload, 1) := dLb_19.2.2.2.2.2.2.1
theorem dL_law_457 : decode cL_law 457 = .ok (.aload_n 0, 1) := dLb_19.2.2.2.2.2.2.2.1
theorem dL_law_458 : decode cL_law 458 = .ok (.iload_n 3, 1) := dLb_19.2.2.2.2.2.2.2.2.1
theorem dL_law_459 : decode cL_law 459 = .ok (.iconst 2, 1) := dLb_19.2.2.2.2.2.2.2.2.2
theorem dLb_20 : (decode cL_law 460 = .ok (.iadd, 1)) ∧ (decode cL_law 461 = .ok (.iaload, 1)) ∧ (decode cL_law 462 = .ok (.invokevirtual 47, 3)) ∧ (decode cL_law 465 = .ok (.pop, 1)) ∧ (decode cL_law 466 = .ok (.aload_n 2, 1)) ∧ (decode cL_law 467 = .ok (.aload_n 0, 1)) ∧ (decode cL_law 468 = .ok (.iload_n 3, 1)) ∧ (decode cL_law 469 = .ok (.iconst 1, 1)) ∧ (decode cL_law 470 = .ok (.iadd, 1)) ∧ (decode cL_law 471 = .ok (.iaload, 1)) := by decide +kernel
theorem dL_law_460 : decode cL_law 460 = .ok (.iadd, 1) := dLb_20.1
theorem dL_law_461 : decode cL_law 461 = .ok (.iaload, 1) := dLb_20.2.1
theorem dL_law_462 : decode cL_law 462 = .ok (.invokevirtual 47, 3) := dLb_20.2.2.1
theorem dL_law_465 : decode cL_law 465 = .ok (.pop, 1) := dLb_20.2.2.2.1
theorem dL_law_466 : decode cL_law 466 = .ok (.aload_n 2, 1) := dLb_20.2.2.2.2.1
theorem dL_law_467 : decode cL_law 467 = .ok (.aload_n 0, 1) := dLb_20.2.2.2.2.2.1
theorem dL_law_468 : decode cL_law 468 = .ok (.iload_n 3, 1) := dLb_20.2.2.2.2.2.2.1
theorem dL_law_469 : decode cL_law 469 = .ok (.iconst 1, 1) := dLb_20.2.2.2.2.2.2.2.1
theorem dL_law_470 : decode cL_law 470 = .ok (.iadd, 1) := dLb_20.2.2.2.2.2.2.2.2.1
theorem dL_law_471 : decode cL_law 471 = .ok (.iaload, 1) := dLb_20.2.2.2.2.2.2.2.2.2
theorem dLb_21 : (decode cL_law 472 = .ok (.aload_n 0, 1)) ∧ (decode cL_law 473 = .ok (.iload_n 3, 1)) ∧ (decode cL_law 474 = .ok (.iconst 2, 1)) ∧ (decode cL_law 475 = .ok (.iadd, 1)) ∧ (decode cL_law 476 = .ok (.iaload, 1)) ∧ (decode cL_law 477 = .ok (.invokevirtual 51, 3)) ∧ (decode cL_law 480 = .ok (.pop, 1)) ∧ (decode cL_law 481 = .ok (.goto 1323, 3)) ∧ (decode cL_law 484 = .ok (.aload_n 1, 1)) ∧ (decode cL_law 485 = .ok (.aload_n 0, 1)) := by decide +kernel
theorem dL_law_472 : decode cL_law 472 = .ok (.aload_n 0, 1) := dLb_21.1
theorem dL_law_473 : decode cL_law 473 = .ok (.iload_n 3, 1) := dLb_21.2.1
theorem dL_law_474 : decode cL_law 474 = .ok (.iconst 2, 1) := dLb_21.2.2.1
theorem dL_law_475 : decode cL_law 475 = .ok (.iadd, 1) := dLb_21.2.2.2.1
theorem dL_law_476 : decode cL_law 476 = .ok (.iaload, 1) := dLb_21.2.2.2.2.1
theorem dL_law_477 : decode cL_law 477 = .ok (.invokevirtual 51, 3) := dLb_21.2.2.2.2.2.1
theorem dL_law_480 : decode cL_law 480 = .ok (.pop, 1) := dLb_21.2.2.2.2.2.2.1
theorem dL_law_481 : decode cL_law 481 = .ok (.goto 1323, 3) := dLb_21.2.2.2.2.2.2.2.1
theorem dL_law_484 : decode cL_law 484 = .ok (.aload_n 1, 1) := dLb_21.2.2.2.2.2.2.2.2.1
theorem dL_law_485 : decode cL_law 485 = .ok (.aload_n 0, 1) := dLb_21.2.2.2.2.2.2.2.2.2
theorem dLb_22 : (decode cL_law 486 = .ok (.iload_n 3, 1)) ∧ (decode cL_law 487 = .ok (.iconst 1, 1)) ∧ (decode cL_law 488 = .ok (.iadd, 1)) ∧ (decode cL_law 489 = .ok (.iaload, 1)) ∧ (decode cL_law 490 = .ok (.aload_n 0, 1)) ∧ (decode cL_law 491 = .ok (.iload_n 3, 1)) ∧ (decode cL_law 492 = .ok (.iconst 2, 1)) ∧ (decode cL_law 493 = .ok (.iadd, 1)) ∧ (decode cL_law 494 = .ok (.iaload, 1)) ∧ (decode cL_law 495 = .ok (.aload_n 0, 1)) := by decide +kernel
theorem dL_law_486 : decode cL_law 486 = .ok (.iload_n 3, 1) := dLb_22.1
theorem dL_law_487 : decode cL_law 487 = .ok (.iconst 1, 1) := dLb_22.2.1
theorem dL_law_488 : decode cL_law 488 = .ok (.iadd, 1) := dLb_22.2.2.1
theorem dL_law_489 : decode cL_law 489 = .ok (.iaload, 1) := dLb_22.2.2.2.1
theorem dL_law_490 : decode cL_law 490 = .ok (.aload_n 0, 1) := dLb_22.2.2.2.2.1
theorem dL_law_491 : decode cL_law 491 = .ok (.iload_n 3, 1) := dLb_22.2.2.2.2.2.1
theorem dL_law_492 : decode cL_law 492 = .ok (.iconst 2, 1) := dLb_22.2.2.2.2.2.2.1
theorem dL_law_493 : decode cL_law 493 = .ok (.iadd, 1) := dLb_22.2.2.2.2.2.2.2.1
theorem dL_law_494 : decode cL_law 494 = .ok (.iaload, 1) := dLb_22.2.2.2.2.2.2.2.2.1
theorem dL_law_495 : decode cL_law 495 = .ok (.aload_n 0, 1) := dLb_22.2.2.2.2.2.2.2.2.2
theorem dLb_23 : (decode cL_law 496 = .ok (.iload_n 3, 1)) ∧ (decode cL_law 497 = .ok (.iconst 3, 1)) ∧ (decode cL_law 498 = .ok (.iadd, 1)) ∧ (decode cL_law 499 = .ok (.iaload, 1)) ∧ (decode cL_law 500 = .ok (.aload_n 0, 1)) ∧ (decode cL_law 501 = .ok (.iload_n 3, 1)) ∧ (decode cL_law 502 = .ok (.iconst 4, 1)) ∧ (decode cL_law 503 = .ok (.iadd, 1)) ∧ (decode cL_law 504 = .ok (.iaload, 1)) ∧ (decode cL_law 505 = .ok (.invokevirtual 52, 3)) := by decide +kernel
theorem dL_law_496 : decode cL_law 496 = .ok (.iload_n 3, 1) := dLb_23.1
theorem dL_law_497 : decode cL_law 497 = .ok (.iconst 3, 1) := dLb_23.2.1
theorem dL_law_498 : decode cL_law 498 = .ok (.iadd, 1) := dLb_23.2.2.1
theorem dL_law_499 : decode cL_law 499 = .ok (.iaload, 1) := dLb_23.2.2.2.1
theorem dL_law_500 : decode cL_law 500 = .ok (.aload_n 0, 1) := dLb_23.2.2.2.2.1
theorem dL_law_501 : decode cL_law 501 = .ok (.iload_n 3, 1) := dLb_23.2.2.2.2.2.1
theorem dL_law_502 : decode cL_law 502 = .ok (.iconst 4, 1) := dLb_23.2.2.2.2.2.2.1
theorem dL_law_503 : decode cL_law 503 = .ok (.iadd, 1) := dLb_23.2.2.2.2.2.2.2.1
theorem dL_law_504 : decode cL_law 504 = .ok (.iaload, 1) := dLb_23.2.2.2.2.2.2.2.2.1
theorem dL_law_505 : decode cL_law 505 = .ok (.invokevirtual 52, 3) := dLb_23.2.2.2.2.2.2.2.2.2
theorem dLb_24 : (decode cL_law 508 = .ok (.pop, 1)) ∧ (decode cL_law 509 = .ok (.aload_n 2, 1)) ∧ (decode cL_law 510 = .ok (.aload_n 0, 1)) ∧ (decode cL_law 511 = .ok (.iload_n 3, 1)) ∧ (decode cL_law 512 = .ok (.iconst 1, 1)) ∧ (decode cL_law 513 = .ok (.iadd, 1)) ∧ (decode cL_law 514 = .ok (.iaload, 1)) ∧ (decode cL_law 515 = .ok (.aload_n 0, 1)) ∧ (decode cL_law 516 = .ok (.iload_n 3, 1)) ∧ (decode cL_law 517 = .ok (.iconst 2, 1)) := by decide +kernel
theorem dL_law_508 : decode cL_law 508 = .ok (.pop, 1) := dLb_24.1
theorem dL_law_509 : decode cL_law 509 = .ok (.aload_n 2, 1) := dLb_24.2.1
theorem dL_law_510 : decode cL_law 510 = .ok (.aload_n 0, 1) := dLb_24.2.2.1
theorem dL_law_511 : decode cL_law 511 = .ok (.iload_n 3, 1) := dLb_24.2.2.2.1
theorem dL_law_512 : decode cL_law 512 = .ok (.iconst 1, 1) := dLb_24.2.2.2.2.1
theorem dL_law_513 : decode cL_law 513 = .ok (.iadd, 1) := dLb_24.2.2.2.2.2.1
theorem dL_law_514 : decode cL_law 514 = .ok (.iaload, 1) := dLb_24.2.2.2.2.2.2.1
theorem dL_law_515 : decode cL_law 515 = .ok (.aload_n 0, 1) := dLb_24.2.2.2.2.2.2.2.1
theorem dL_law_516 : decode cL_law 516 = .ok (.iload_n 3, 1) := dLb_24.2.2.2.2.2.2.2.2.1
theorem dL_law_517 : decode cL_law 517 = .ok (.iconst 2, 1) := dLb_24.2.2.2.2.2.2.2.2.2
theorem dLb_25 : (decode cL_law 518 = .ok (.iadd, 1)) ∧ (decode cL_law 519 = .ok (.iaload, 1)) ∧ (decode cL_law 520 = .ok (.aload_n 0, 1)) ∧ (decode cL_law 521 = .ok (.iload_n 3, 1)) ∧ (decode cL_law 522 = .ok (.iconst 3, 1)) ∧ (decode cL_law 523 = .ok (.iadd, 1)) ∧ (decode cL_law 524 = .ok (.iaload, 1)) ∧ (decode cL_law 525 = .ok (.aload_n 0, 1)) ∧ (decode cL_law 526 = .ok (.iload_n 3, 1)) ∧ (decode cL_law 527 = .ok (.iconst 4, 1)) := by decide +kernel
theorem dL_law_518 : decode cL_law 518 = .ok (.iadd, 1) := dLb_25.1
theorem dL_law_519 : decode cL_law 519 = .ok (.iaload, 1) := dLb_25.2.1
theorem dL_law_520 : decode cL_law 520 = .ok (.aload_n 0, 1) := dLb_25.2.2.1
theorem dL_law_521 : decode cL_law 521 = .ok (.iload_n 3, 1) := dLb_25.2.2.2.1
theorem dL_law_522 : decode cL_law 522 = .ok (.iconst 3, 1) := dLb_25.2.2.2.2.1
theorem dL_law_523 : decode cL_law 523 = .ok (.iadd, 1) := dLb_25.2.2.2.2.2.1
theorem dL_law_524 : decode cL_law 524 = .ok (.iaload, 1) := dLb_25.2.2.2.2.2.2.1
theorem dL_law_525 : decode cL_law 525 = .ok (.aload_n 0, 1) := dLb_25.2.2.2.2.2.2.2.1
theorem dL_law_526 : decode cL_law 526 = .ok (.iload_n 3, 1) := dLb_25.2.2.2.2.2.2.2.2.1
theorem dL_law_527 : decode cL_law 527 = .ok (.iconst 4, 1) := dLb_25.2.2.2.2.2.2.2.2.2
theorem dLb_26 : (decode cL_law 528 = .ok (.iadd, 1)) ∧ (decode cL_law 529 = .ok (.iaload, 1)) ∧ (decode cL_law 530 = .ok (.invokevirtual 56, 3)) ∧ (decode cL_law 533 = .ok (.pop, 1)) ∧ (decode cL_law 534 = .ok (.goto 1270, 3)) ∧ (decode cL_law 537 = .ok (.aload_n 1, 1)) ∧ (decode cL_law 538 = .ok (.aload_n 0, 1)) ∧ (decode cL_law 539 = .ok (.iload_n 3, 1)) ∧ (decode cL_law 540 = .ok (.iconst 1, 1)) ∧ (decode cL_law 541 = .ok (.iadd, 1)) := by decide +kernel
theorem dL_law_528 : decode cL_law 528 = .ok (.iadd, 1) := dLb_26.1
theorem dL_law_529 : decode cL_law 529 = .ok (.iaload, 1) := dLb_26.2.1
theorem dL_law_530 : decode cL_law 530 = .ok (.invokevirtual 56, 3) := dLb_26.2.2.1
theorem dL_law_533 : decode cL_law 533 = .ok (.pop, 1) := dLb_26.2.2.2.1
theorem dL_law_534 : decode cL_law 534 = .ok (.goto 1270, 3) := dLb_26.2.2.2.2.1
theorem dL_law_537 : decode cL_law 537 = .ok (.aload_n 1, 1) := dLb_26.2.2.2.2.2.1
theorem dL_law_538 : decode cL_law 538 = .ok (.aload_n 0, 1) := dLb_26.2.2.2.2.2.2.1
theorem dL_law_539 : decode cL_law 539 = .ok (.iload_n 3, 1) := dLb_26.2.2.2.2.2.2.2.1
theorem dL_law_540 : decode cL_law 540 = .ok (.iconst 1, 1) := dLb_26.2.2.2.2.2.2.2.2.1
theorem dL_law_541 : decode cL_law 541 = .ok (.iadd, 1) := dLb_26.2.2.2.2.2.2.2.2.2
theorem dLb_27 : (decode cL_law 542 = .ok (.iaload, 1)) ∧ (decode cL_law 543 = .ok (.aload_n 0, 1)) ∧ (decode cL_law 544 = .ok (.iload_n 3, 1)) ∧ (decode cL_law 545 = .ok (.iconst 2, 1)) ∧ (decode cL_law 546 = .ok (.iadd, 1)) ∧ (decode cL_law 547 = .ok (.iaload, 1)) ∧ (decode cL_law 548 = .ok (.aload_n 0, 1)) ∧ (decode cL_law 549 = .ok (.iload_n 3, 1)) ∧ (decode cL_law 550 = .ok (.iconst 3, 1)) ∧ (decode cL_law 551 = .ok (.iadd, 1)) := by decide +kernel
theorem dL_law_542 : decode cL_law 542 = .ok (.iaload, 1) := dLb_27.1
theorem dL_law_543 : decode cL_law 543 = .ok (.aload_n 0, 1) := dLb_27.2.1
theorem dL_law_544 : decode cL_law 544 = .ok (.iload_n 3, 1) := dLb_27.2.2.1
theorem dL_law_545 : decode cL_law 545 = .ok (.iconst 2, 1) := dLb_27.2.2.2.1
theorem dL_law_546 : decode cL_law 546 = .ok (.iadd, 1) := dLb_27.2.2.2.2.1
theorem dL_law_547 : decode cL_law 547 = .ok (.iaload, 1) := dLb_27.2.2.2.2.2.1
theorem dL_law_548 : decode cL_law 548 = .ok (.aload_n 0, 1) := dLb_27.2.2.2.2.2.2.1
theorem dL_law_549 : decode cL_law 549 = .ok (.iload_n 3, 1) := dLb_27.2.2.2.2.2.2.2.1
theorem dL_law_550 : decode cL_law 550 = .ok (.iconst 3, 1) := dLb_27.2.2.2.2.2.2.2.2.1
theorem dL_law_551 : decode cL_law 551 = .ok (.iadd, 1) := dLb_27.2.2.2.2.2.2.2.2.2
theorem dLb_28 : (decode cL_law 552 = .ok (.iaload, 1)) ∧ (decode cL_law 553 = .ok (.aload_n 0, 1)) ∧ (decode cL_law 554 = .ok (.iload_n 3, 1)) ∧ (decode cL_law 555 = .ok (.iconst 4, 1)) ∧ (decode cL_law 556 = .ok (.iadd, 1)) ∧ (decode cL_law 557 = .ok (.iaload, 1)) ∧ (decode cL_law 558 = .ok (.invokevirtual 57, 3)) ∧ (decode cL_law 561 = .ok (.pop, 1)) ∧ (decode cL_law 562 = .ok (.aload_n 2, 1)) ∧ (decode cL_law 563 = .ok (.aload_n 0, 1)) := by decide +kernel
theorem dL_law_552 : decode cL_law 552 = .ok (.iaload, 1) := dLb_28.1
theorem dL_law_553 : decode cL_law 553 = .ok (.aload_n 0, 1) := dLb_28.2.1
theorem dL_law_554 : decode cL_law 554 = .ok (.iload_n 3, 1) := dLb_28.2.2.1
theorem dL_law_555 : decode cL_law 555 = .ok (.iconst 4, 1) := dLb_28.2.2.2.1
theorem dL_law_556 : decode cL_law 556 = .ok (.iadd, 1) := dLb_28.2.2.2.2.1
theorem dL_law_557 : decode cL_law 557 = .ok (.iaload, 1) := dLb_28.2.2.2.2.2.1
theorem dL_law_558 : decode cL_law 558 = .ok (.invokevirtual 57, 3) := dLb_28.2.2.2.2.2.2.1
theorem dL_law_561 : decode cL_law 561 = .ok (.pop, 1) := dLb_28.2.2.2.2.2.2.2.1
theorem dL_law_562 : decode cL_law 562 = .ok (.aload_n 2, 1) := dLb_28.2.2.2.2.2.2.2.2.1
theorem dL_law_563 : decode cL_law 563 = .ok (.aload_n 0, 1) := dLb_28.2.2.2.2.2.2.2.2.2
theorem dLb_29 : (decode cL_law 564 = .ok (.iload_n 3, 1)) ∧ (decode cL_law 565 = .ok (.iconst 1, 1)) ∧ (decode cL_law 566 = .ok (.iadd, 1)) ∧ (decode cL_law 567 = .ok (.iaload, 1)) ∧ (decode cL_law 568 = .ok (.aload_n 0, 1)) ∧ (decode cL_law 569 = .ok (.iload_n 3, 1)) ∧ (decode cL_law 570 = .ok (.iconst 2, 1)) ∧ (decode cL_law 571 = .ok (.iadd, 1)) ∧ (decode cL_law 572 = .ok (.iaload, 1)) ∧ (decode cL_law 573 = .ok (.aload_n 0, 1)) := by decide +kernel
theorem dL_law_564 : decode cL_law 564 = .ok (.iload_n 3, 1) := dLb_29.1
theorem dL_law_565 : decode cL_law 565 = .ok (.iconst 1, 1) := dLb_29.2.1
theorem dL_law_566 : decode cL_law 566 = .ok (.iadd, 1) := dLb_29.2.2.1
theorem dL_law_567 : decode cL_law 567 = .ok (.iaload, 1) := dLb_29.2.2.2.1
theorem dL_law_568 : decode cL_law 568 = .ok (.aload_n 0, 1) := dLb_29.2.2.2.2.1
theorem dL_law_569 : decode cL_law 569 = .ok (.iload_n 3, 1) := dLb_29.2.2.2.2.2.1
theorem dL_law_570 : decode cL_law 570 = .ok (.iconst 2, 1) := dLb_29.2.2.2.2.2.2.1
theorem dL_law_571 : decode cL_law 571 = .ok (.iadd, 1) := dLb_29.2.2.2.2.2.2.2.1
theorem dL_law_572 : decode cL_law 572 = .ok (.iaload, 1) := dLb_29.2.2.2.2.2.2.2.2.1
theorem dL_law_573 : decode cL_law 573 = .ok (.aload_n 0, 1) := dLb_29.2.2.2.2.2.2.2.2.2
theorem dLb_30 : (decode cL_law 574 = .ok (.iload_n 3, 1)) ∧ (decode cL_law 575 = .ok (.iconst 3, 1)) ∧ (decode cL_law 576 = .ok (.iadd, 1)) ∧ (decode cL_law 577 = .ok (.iaload, 1)) ∧ (decode cL_law 578 = .ok (.aload_n 0, 1)) ∧ (decode cL_law 579 = .ok (.iload_n 3, 1)) ∧ (decode cL_law 580 = .ok (.iconst 4, 1)) ∧ (decode cL_law 581 = .ok (.iadd, 1)) ∧ (decode cL_law 582 = .ok (.iaload, 1)) ∧ (decode cL_law 583 = .ok (.invokevirtual 60, 3)) := by decide +kernel
theorem dL_law_574 : decode cL_law 574 = .ok (.iload_n 3, 1) := dLb_30.1
theorem dL_law_575 : decode cL_law 575 = .ok (.iconst 3, 1) := dLb_30.2.1
theorem dL_law_576 : decode cL_law 576 = .ok (.iadd, 1) := dLb_30.2.2.1
theorem dL_law_577 : decode cL_law 577 = .ok (.iaload, 1) := dLb_30.2.2.2.1
theorem dL_law_578 : decode cL_law 578 = .ok (.aload_n 0, 1) := dLb_30.2.2.2.2.1
theorem dL_law_579 : decode cL_law 579 = .ok (.iload_n 3, 1) := dLb_30.2.2.2.2.2.1
theorem dL_law_580 : decode cL_law 580 = .ok (.iconst 4, 1) := dLb_30.2.2.2.2.2.2.1
theorem dL_law_581 : decode cL_law 581 = .ok (.iadd, 1) := dLb_30.2.2.2.2.2.2.2.1
theorem dL_law_582 : decode cL_law 582 = .ok (.iaload, 1) := dLb_30.2.2.2.2.2.2.2.2.1
theorem dL_law_583 : decode cL_law 583 = .ok (.invokevirtual 60, 3) := dLb_30.2.2.2.2.2.2.2.2.2
theorem dLb_31 : (decode cL_law 586 = .ok (.pop, 1)) ∧ (decode cL_law 587 = .ok (.goto 1217, 3)) ∧ (decode cL_law 590 = .ok (.aload_n 1, 1)) ∧ (decode cL_law 591 = .ok (.aload_n 0, 1)) ∧ (decode cL_law 592 = .ok (.iload_n 3, 1)) ∧ (decode cL_law 593 = .ok (.iconst 1, 1)) ∧ (decode cL_law 594 = .ok (.iadd, 1)) ∧ (decode cL_law 595 = .ok (.iaload, 1)) ∧ (decode cL_law 596 = .ok (.aload_n 0, 1)) ∧ (decode cL_law 597 = .ok (.iload_n 3, 1)) := by decide +kernel
theorem dL_law_586 : decode cL_law 586 = .ok (.pop, 1) := dLb_31.1
theorem dL_law_587 : decode cL_law 587 = .ok (.goto 1217, 3) := dLb_31.2.1
theorem dL_law_590 : decode cL_law 590 = .ok (.aload_n 1, 1) := dLb_31.2.2.1
theorem dL_law_591 : decode cL_law 591 = .ok (.aload_n 0, 1) := dLb_31.2.2.2.1
theorem dL_law_592 : decode cL_law 592 = .ok (.iload_n 3, 1) := dLb_31.2.2.2.2.1
theorem dL_law_593 : decode cL_law 593 = .ok (.iconst 1, 1) := dLb_31.2.2.2.2.2.1
theorem dL_law_594 : decode cL_law 594 = .ok (.iadd, 1) := dLb_31.2.2.2.2.2.2.1
theorem dL_law_595 : decode cL_law 595 = .ok (.iaload, 1) := dLb_31.2.2.2.2.2.2.2.1
theorem dL_law_596 : decode cL_law 596 = .ok (.aload_n 0, 1) := dLb_31.2.2.2.2.2.2.2.2.1
theorem dL_law_597 : decode cL_law 597 = .ok (.iload_n 3, 1) := dLb_31.2.2.2.2.2.2.2.2.2
theorem dLb_32 : (decode cL_law 598 = .ok (.iconst 2, 1)) ∧ (decode cL_law 599 = .ok (.iadd, 1)) ∧ (decode cL_law 600 = .ok (.iaload, 1)) ∧ (decode cL_law 601 = .ok (.aload_n 0, 1)) ∧ (decode cL_law 602 = .ok (.iload_n 3, 1)) ∧ (decode cL_law 603 = .ok (.iconst 3, 1)) ∧ (decode cL_law 604 = .ok (.iadd, 1)) ∧ (decode cL_law 605 = .ok (.iaload, 1)) ∧ (decode cL_law 606 = .ok (.aload_n 0, 1)) ∧ (decode cL_law 607 = .ok (.iload_n 3, 1)) := by decide +kernel
theorem dL_law_598 : decode cL_law 598 = .ok (.iconst 2, 1) := dLb_32.1
theorem dL_law_599 : decode cL_law 599 = .ok (.iadd, 1) := dLb_32.2.1
theorem dL_law_600 : decode cL_law 600 = .ok (.iaload, 1) := dLb_32.2.2.1
theorem dL_law_601 : decode cL_law 601 = .ok (.aload_n 0, 1) := dLb_32.2.2.2.1
theorem dL_law_602 : decode cL_law 602 = .ok (.iload_n 3, 1) := dLb_32.2.2.2.2.1
theorem dL_law_603 : decode cL_law 603 = .ok (.iconst 3, 1) := dLb_32.2.2.2.2.2.1
theorem dL_law_604 : decode cL_law 604 = .ok (.iadd, 1) := dLb_32.2.2.2.2.2.2.1
theorem dL_law_605 : decode cL_law 605 = .ok (.iaload, 1) := dLb_32.2.2.2.2.2.2.2.1
theorem dL_law_606 : decode cL_law 606 = .ok (.aload_n 0, 1) := dLb_32.2.2.2.2.2.2.2.2.1
theorem dL_law_607 : decode cL_law 607 = .ok (.iload_n 3, 1) := dLb_32.2.2.2.2.2.2.2.2.2
theorem dLb_33 : (decode cL_law 608 = .ok (.iconst 4, 1)) ∧ (decode cL_law 609 = .ok (.iadd, 1)) ∧ (decode cL_law 610 = .ok (.iaload, 1)) ∧ (decode cL_law 611 = .ok (.aload_n 0, 1)) ∧ (decode cL_law 612 = .ok (.iload_n 3, 1)) ∧ (decode cL_law 613 = .ok (.iconst 5, 1)) ∧ (decode cL_law 614 = .ok (.iadd, 1)) ∧ (decode cL_law 615 = .ok (.iaload, 1)) ∧ (decode cL_law 616 = .ok (.invokevirtual 61, 3)) ∧ (decode cL_law 619 = .ok (.pop, 1)) := by decide +kernel
theorem dL_law_608 : decode cL_law 608 = .ok (.iconst 4, 1) := dLb_33.1
theorem dL_law_609 : decode cL_law 609 = .ok (.iadd, 1) := dLb_33.2.1
theorem dL_law_610 : decode cL_law 610 = .ok (.iaload, 1) := dLb_33.2.2.1
theorem dL_law_611 : decode cL_law 611 = .ok (.aload_n 0, 1) := dLb_33.2.2.2.1
theorem dL_law_612 : decode cL_law 612 = .ok (.iload_n 3, 1) := dLb_33.2.2.2.2.1
theorem dL_law_613 : decode cL_law 613 = .ok (.iconst 5, 1) := dLb_33.2.2.2.2.2.1
theorem dL_law_614 : decode cL_law 614 = .ok (.iadd, 1) := dLb_33.2.2.2.2.2.2.1
theorem dL_law_615 : decode cL_law 615 = .ok (.iaload, 1) := dLb_33.2.2.2.2.2.2.2.1
theorem dL_law_616 : decode cL_law 616 = .ok (.invokevirtual 61, 3) := dLb_33.2.2.2.2.2.2.2.2.1
theorem dL_law_619 : decode cL_law 619 = .ok (.pop, 1) := dLb_33.2.2.2.2.2.2.2.2.2
theorem dLb_34 : (decode cL_law 620 = .ok (.aload_n 2, 1)) ∧ (decode cL_law 621 = .ok (.aload_n 0, 1)) ∧ (decode cL_law 622 = .ok (.iload_n 3, 1)) ∧ (decode cL_law 623 = .ok (.iconst 1, 1)) ∧ (decode cL_law 624 = .ok (.iadd, 1)) ∧ (decode cL_law 625 = .ok (.iaload, 1)) ∧ (decode cL_law 626 = .ok (.aload_n 0, 1)) ∧ (decode cL_law 627 = .ok (.iload_n 3, 1)) ∧ (decode cL_law 628 = .ok (.iconst 2, 1)) ∧ (decode cL_law 629 = .ok (.iadd, 1)) := by decide +kernel
theorem dL_law_620 : decode cL_law 620 = .ok (.aload_n 2, 1) := dLb_34.1
theorem dL_law_621 : decode cL_law 621 = .ok (.aload_n 0, 1) := dLb_34.2.1
theorem dL_law_622 : decode cL_law 622 = .ok (.iload_n 3, 1) := dLb_34.2.2.1
theorem dL_law_623 : decode cL_law 623 = .ok (.iconst 1, 1) := dLb_34.2.2.2.1
theorem dL_law_624 : decode cL_law 624 = .ok (.iadd, 1) := dLb_34.2.2.2.2.1
theorem dL_law_625 : decode cL_law 625 = .ok (.iaload, 1) := dLb_34.2.2.2.2.2.1
theorem dL_law_626 : decode cL_law 626 = .ok (.aload_n 0, 1) := dLb_34.2.2.2.2.2.2.1
theorem dL_law_627 : decode cL_law 627 = .ok (.iload_n 3, 1) := dLb_34.2.2.2.2.2.2.2.1
theorem dL_law_628 : decode cL_law 628 = .ok (.iconst 2, 1) := dLb_34.2.2.2.2.2.2.2.2.1
theorem dL_law_629 : decode cL_law 629 = .ok (.iadd, 1) := dLb_34.2.2.2.2.2.2.2.2.2
theorem dLb_35 : (decode cL_law 630 = .ok (.iaload, 1)) ∧ (decode cL_law 631 = .ok (.aload_n 0, 1)) ∧ (decode cL_law 632 = .ok (.iload_n 3, 1)) ∧ (decode cL_law 633 = .ok (.iconst 3, 1)) ∧ (decode cL_law 634 = .ok (.iadd, 1)) ∧ (decode cL_law 635 = .ok (.iaload, 1)) ∧ (decode cL_law 636 = .ok (.aload_n 0, 1)) ∧ (decode cL_law 637 = .ok (.iload_n 3, 1)) ∧ (decode cL_law 638 = .ok (.iconst 4, 1)) ∧ (decode cL_law 639 = .ok (.iadd, 1)) := by decide +kernel
theorem dL_law_630 : decode cL_law 630 = .ok (.iaload, 1) := dLb_35.1
theorem dL_law_631 : decode cL_law 631 = .ok (.aload_n 0, 1) := dLb_35.2.1
theorem dL_law_632 : decode cL_law 632 = .ok (.iload_n 3, 1) := dLb_35.2.2.1
theorem dL_law_633 : decode cL_law 633 = .ok (.iconst 3, 1) := dLb_35.2.2.2.1
theorem dL_law_634 : decode cL_law 634 = .ok (.iadd, 1) := dLb_35.2.2.2.2.1
theorem dL_law_635 : decode cL_law 635 = .ok (.iaload, 1) := dLb_35.2.2.2.2.2.1
theorem dL_law_636 : decode cL_law 636 = .ok (.aload_n 0, 1) := dLb_35.2.2.2.2.2.2.1
theorem dL_law_637 : decode cL_law 637 = .ok (.iload_n 3, 1) := dLb_35.2.2.2.2.2.2.2.1
theorem dL_law_638 : decode cL_law 638 = .ok (.iconst 4, 1) := dLb_35.2.2.2.2.2.2.2.2.1
theorem dL_law_639 : decode cL_law 639 = .ok (.iadd, 1) := dLb_35.2.2.2.2.2.2.2.2.2
theorem dLb_36 : (decode cL_law 640 = .ok (.iaload, 1)) ∧ (decode cL_law 641 = .ok (.aload_n 0, 1)) ∧ (decode cL_law 642 = .ok (.iload_n 3, 1)) ∧ (decode cL_law 643 = .ok (.iconst 5, 1)) ∧ (decode cL_law 644 = .ok (.iadd, 1)) ∧ (decode cL_law 645 = .ok (.iaload, 1)) ∧ (decode cL_law 646 = .ok (.invokevirtual 64, 3)) ∧ (decode cL_law 649 = .ok (.pop, 1)) ∧ (decode cL_law 650 = .ok (.goto 1154, 3)) ∧ (decode cL_law 653 = .ok (.aload_n 1, 1)) := by decide +kernel
theorem dL_law_640 : decode cL_law 640 = .ok (.iaload, 1) := dLb_36.1
theorem dL_law_641 : decode cL_law 641 = .ok (.aload_n 0, 1) := dLb_36.2.1
theorem dL_law_642 : decode cL_law 642 = .ok (.iload_n 3, 1) := dLb_36.2.2.1
theorem dL_law_643 : decode cL_law 643 = .ok (.iconst 5, 1) := dLb_36.2.2.2.1
theorem dL_law_644 : decode cL_law 644 = .ok (.iadd, 1) := dLb_36.2.2.2.2.1
theorem dL_law_645 : decode cL_law 645 = .ok (.iaload, 1) := dLb_36.2.2.2.2.2.1
theorem dL_law_646 : decode cL_law 646 = .ok (.invokevirtual 64, 3) := dLb_36.2.2.2.2.2.2.1
theorem dL_law_649 : decode cL_law 649 = .ok (.pop, 1) := dLb_36.2.2.2.2.2.2.2.1
theorem dL_law_650 : decode cL_law 650 = .ok (.goto 1154, 3) := dLb_36.2.2.2.2.2.2.2.2.1
theorem dL_law_653 : decode cL_law 653 = .ok (.aload_n 1, 1) := dLb_36.2.2.2.2.2.2.2.2.2
theorem dLb_37 : (decode cL_law 654 = .ok (.aload_n 0, 1)) ∧ (decode cL_law 655 = .ok (.iload_n 3, 1)) ∧ (decode cL_law 656 = .ok (.iconst 1, 1)) ∧ (decode cL_law 657 = .ok (.iadd, 1)) ∧ (decode cL_law 658 = .ok (.iaload, 1)) ∧ (decode cL_law 659 = .ok (.aload_n 0, 1)) ∧ (decode cL_law 660 = .ok (.iload_n 3, 1)) ∧ (decode cL_law 661 = .ok (.iconst 2, 1)) ∧ (decode cL_law 662 = .ok (.iadd, 1)) ∧ (decode cL_law 663 = .ok (.iaload, 1)) := by decide +kernel
theorem dL_law_654 : decode cL_law 654 = .ok (.aload_n 0, 1) := dLb_37.1
theorem dL_law_655 : decode cL_law 655 = .ok (.iload_n 3, 1) := dLb_37.2.1
theorem dL_law_656 : decode cL_law 656 = .ok (.iconst 1, 1) := dLb_37.2.2.1
theorem dL_law_657 : decode cL_law 657 = .ok (.iadd, 1) := dLb_37.2.2.2.1
theorem dL_law_658 : decode cL_law 658 = .ok (.iaload, 1) := dLb_37.2.2.2.2.1
theorem dL_law_659 : decode cL_law 659 = .ok (.aload_n 0, 1) := dLb_37.2.2.2.2.2.1
theorem dL_law_660 : decode cL_law 660 = .ok (.iload_n 3, 1) := dLb_37.2.2.2.2.2.2.1
theorem dL_law_661 : decode cL_law 661 = .ok (.iconst 2, 1) := dLb_37.2.2.2.2.2.2.2.1
theorem dL_law_662 : decode cL_law 662 = .ok (.iadd, 1) := dLb_37.2.2.2.2.2.2.2.2.1
theorem dL_law_663 : decode cL_law 663 = .ok (.iaload, 1) := dLb_37.2.2.2.2.2.2.2.2.2
theorem dLb_38 : (decode cL_law 664 = .ok (.invokevirtual 65, 3)) ∧ (decode cL_law 667 = .ok (.pop, 1)) ∧ (decode cL_law 668 = .ok (.aload_n 2, 1)) ∧ (decode cL_law 669 = .ok (.aload_n 0, 1)) ∧ (decode cL_law 670 = .ok (.iload_n 3, 1)) ∧ (decode cL_law 671 = .ok (.iconst 1, 1)) ∧ (decode cL_law 672 = .ok (.iadd, 1)) ∧ (decode cL_law 673 = .ok (.iaload, 1)) ∧ (decode cL_law 674 = .ok (.aload_n 0, 1)) ∧ (decode cL_law 675 = .ok (.iload_n 3, 1)) := by decide +kernel
theorem dL_law_664 : decode cL_law 664 = .ok (.invokevirtual 65, 3) := dLb_38.1
theorem dL_law_667 : decode cL_law 667 = .ok (.pop, 1) := dLb_38.2.1
theorem dL_law_668 : decode cL_law 668 = .ok (.aload_n 2, 1) := dLb_38.2.2.1
theorem dL_law_669 : decode cL_law 669 = .ok (.aload_n 0, 1) := dLb_38.2.2.2.1
theorem dL_law_670 : decode cL_law 670 = .ok (.iload_n 3, 1) := dLb_38.2.2.2.2.1
theorem dL_law_671 : decode cL_law 671 = .ok (.iconst 1, 1) := dLb_38.2.2.2.2.2.1
theorem dL_law_672 : decode cL_law 672 = .ok (.iadd, 1) := dLb_38.2.2.2.2.2.2.1
theorem dL_law_673 : decode cL_law 673 = .ok (.iaload, 1) := dLb_38.2.2.2.2.2.2.2.1
theorem dL_law_674 : decode cL_law 674 = .ok (.aload_n 0, 1) := dLb_38.2.2.2.2.2.2.2.2.1
theorem dL_law_675 : decode cL_law 675 = .ok (.iload_n 3, 1) := dLb_38.2.2.2.2.2.2.2.2.2
theorem dLb_39 : (decode cL_law 676 = .ok (.iconst 2, 1)) ∧ (decode cL_law 677 = .ok (.iadd, 1)) ∧ (decode cL_law 678 = .ok (.iaload, 1)) ∧ (decode cL_law 679 = .ok (.invokevirtual 68, 3)) ∧ (decode cL_law 682 = .ok (.pop, 1)) ∧ (decode cL_law 683 = .ok (.goto 1121, 3)) ∧ (decode cL_law 686 = .ok (.aload_n 1, 1)) ∧ (decode cL_law 687 = .ok (.aload_n 0, 1)) ∧ (decode cL_law 688 = .ok (.iload_n 3, 1)) ∧ (decode cL_law 689 = .ok (.iconst 1, 1)) := by decide +kernel
theorem dL_law_676 : decode cL_law 676 = .ok (.iconst 2, 1) := dLb_39.1
theorem dL_law_677 : decode cL_law 677 = .ok (.iadd, 1) := dLb_39.2.1
theorem dL_law_678 : decode cL_law 678 = .ok (.iaload, 1) := dLb_39.2.2.1
theorem dL_law_679 : decode cL_law 679 = .ok (.invokevirtual 68, 3) := dLb_39.2.2.2.1
theorem dL_law_682 : decode cL_law 682 = .ok (.pop, 1) := dLb_39.2.2.2.2.1
theorem dL_law_683 : decode cL_law 683 = .ok (.goto 1121, 3) := dLb_39.2.2.2.2.2.1
theorem dL_law_686 : decode cL_law 686 = .ok (.aload_n 1, 1) := dLb_39.2.2.2.2.2.2.1
theorem dL_law_687 : decode cL_law 687 = .ok (.aload_n 0, 1) := dLb_39.2.2.2.2.2.2.2.1
theorem dL_law_688 : decode cL_law 688 = .ok (.iload_n 3, 1) := dLb_39.2.2.2.2.2.2.2.2.1
theorem dL_law_689 : decode cL_law 689 = .ok (.iconst 1, 1) := dLb_39.2.2.2.2.2.2.2.2.2
theorem dLb_40 : (decode cL_law 690 = .ok (.iadd, 1)) ∧ (decode cL_law 691 = .ok (.iaload, 1)) ∧ (decode cL_law 692 = .ok (.invokevirtual 69, 3)) ∧ (decode cL_law 695 = .ok (.pop, 1)) ∧ (decode cL_law 696 = .ok (.aload_n 2, 1)) ∧ (decode cL_law 697 = .ok (.aload_n 0, 1)) ∧ (decode cL_law 698 = .ok (.iload_n 3, 1)) ∧ (decode cL_law 699 = .ok (.iconst 1, 1)) ∧ (decode cL_law 700 = .ok (.iadd, 1)) ∧ (decode cL_law 701 = .ok (.iaload, 1)) := by decide +kernel
theorem dL_law_690 : decode cL_law 690 = .ok (.iadd, 1) := dLb_40.1
theorem dL_law_691 : decode cL_law 691 = .ok (.iaload, 1) := dLb_40.2.1
theorem dL_law_692 : decode cL_law 692 = .ok (.invokevirtual 69, 3) := dLb_40.2.2.1
theorem dL_law_695 : decode cL_law 695 = .ok (.pop, 1) := dLb_40.2.2.2.1
theorem dL_law_696 : decode cL_law 696 = .ok (.aload_n 2, 1) := dLb_40.2.2.2.2.1
theorem dL_law_697 : decode cL_law 697 = .ok (.aload_n 0, 1) := dLb_40.2.2.2.2.2.1
theorem dL_law_698 : decode cL_law 698 = .ok (.iload_n 3, 1) := dLb_40.2.2.2.2.2.2.1
theorem dL_law_699 : decode cL_law 699 = .ok (.iconst 1, 1) := dLb_40.2.2.2.2.2.2.2.1
theorem dL_law_700 : decode cL_law 700 = .ok (.iadd, 1) := dLb_40.2.2.2.2.2.2.2.2.1
theorem dL_law_701 : decode cL_law 701 = .ok (.iaload, 1) := dLb_40.2.2.2.2.2.2.2.2.2
theorem dLb_41 : (decode cL_law 702 = .ok (.invokevirtual 72, 3)) ∧ (decode cL_law 705 = .ok (.pop, 1)) ∧ (decode cL_law 706 = .ok (.goto 1098, 3)) ∧ (decode cL_law 709 = .ok (.aload_n 1, 1)) ∧ (decode cL_law 710 = .ok (.aload_n 0, 1)) ∧ (decode cL_law 711 = .ok (.iload_n 3, 1)) ∧ (decode cL_law 712 = .ok (.iconst 1, 1)) ∧ (decode cL_law 713 = .ok (.iadd, 1)) ∧ (decode cL_law 714 = .ok (.iaload, 1)) ∧ (decode cL_law 715 = .ok (.invokevirtual 73, 3)) := by decide +kernel
theorem dL_law_702 : decode cL_law 702 = .ok (.invokevirtual 72, 3) := dLb_41.1
theorem dL_law_705 : decode cL_law 705 = .ok (.pop, 1) := dLb_41.2.1
theorem dL_law_706 : decode cL_law 706 = .ok (.goto 1098, 3) := dLb_41.2.2.1
theorem dL_law_709 : decode cL_law 709 = .ok (.aload_n 1, 1) := dLb_41.2.2.2.1
theorem dL_law_710 : decode cL_law 710 = .ok (.aload_n 0, 1) := dLb_41.2.2.2.2.1
theorem dL_law_711 : decode cL_law 711 = .ok (.iload_n 3, 1) := dLb_41.2.2.2.2.2.1
theorem dL_law_712 : decode cL_law 712 = .ok (.iconst 1, 1) := dLb_41.2.2.2.2.2.2.1
theorem dL_law_713 : decode cL_law 713 = .ok (.iadd, 1) := dLb_41.2.2.2.2.2.2.2.1
theorem dL_law_714 : decode cL_law 714 = .ok (.iaload, 1) := dLb_41.2.2.2.2.2.2.2.2.1
theorem dL_law_715 : decode cL_law 715 = .ok (.invokevirtual 73, 3) := dLb_41.2.2.2.2.2.2.2.2.2
theorem dLb_42 : (decode cL_law 718 = .ok (.pop, 1)) ∧ (decode cL_law 719 = .ok (.aload_n 2, 1)) ∧ (decode cL_law 720 = .ok (.aload_n 0, 1)) ∧ (decode cL_law 721 = .ok (.iload_n 3, 1)) ∧ (decode cL_law 722 = .ok (.iconst 1, 1)) ∧ (decode cL_law 723 = .ok (.iadd, 1)) ∧ (decode cL_law 724 = .ok (.iaload, 1)) ∧ (decode cL_law 725 = .ok (.invokevirtual 76, 3)) ∧ (decode cL_law 728 = .ok (.pop, 1)) ∧ (decode cL_law 729 = .ok (.goto 1075, 3)) := by decide +kernel
theorem dL_law_718 : decode cL_law 718 = .ok (.pop, 1) := dLb_42.1
theorem dL_law_719 : decode cL_law 719 = .ok (.aload_n 2, 1) := dLb_42.2.1
theorem dL_law_720 : decode cL_law 720 = .ok (.aload_n 0, 1) := dLb_42.2.2.1
theorem dL_law_721 : decode cL_law 721 = .ok (.iload_n 3, 1) := dLb_42.2.2.2.1
theorem dL_law_722 : decode cL_law 722 = .ok (.iconst 1, 1) := dLb_42.2.2.2.2.1
theorem dL_law_723 : decode cL_law 723 = .ok (.iadd, 1) := dLb_42.2.2.2.2.2.1
theorem dL_law_724 : decode cL_law 724 = .ok (.iaload, 1) := dLb_42.2.2.2.2.2.2.1
theorem dL_law_725 : decode cL_law 725 = .ok (.invokevirtual 76, 3) := dLb_42.2.2.2.2.2.2.2.1
theorem dL_law_728 : decode cL_law 728 = .ok (.pop, 1) := dLb_42.2.2.2.2.2.2.2.2.1
theorem dL_law_729 : decode cL_law 729 = .ok (.goto 1075, 3) := dLb_42.2.2.2.2.2.2.2.2.2
theorem dLb_43 : (decode cL_law 732 = .ok (.aload_n 1, 1)) ∧ (decode cL_law 733 = .ok (.aload_n 0, 1)) ∧ (decode cL_law 734 = .ok (.iload_n 3, 1)) ∧ (decode cL_law 735 = .ok (.iconst 1, 1)) ∧ (decode cL_law 736 = .ok (.iadd, 1)) ∧ (decode cL_law 737 = .ok (.iaload, 1)) ∧ (decode cL_law 738 = .ok (.invokevirtual 77, 3)) ∧ (decode cL_law 741 = .ok (.pop, 1)) ∧ (decode cL_law 742 = .ok (.aload_n 2, 1)) ∧ (decode cL_law 743 = .ok (.aload_n 0, 1)) := by decide +kernel
theorem dL_law_732 : decode cL_law 732 = .ok (.aload_n 1, 1) := dLb_43.1
theorem dL_law_733 : decode cL_law 733 = .ok (.aload_n 0, 1) := dLb_43.2.1
theorem dL_law_734 : decode cL_law 734 = .ok (.iload_n 3, 1) := dLb_43.2.2.1
theorem dL_law_735 : decode cL_law 735 = .ok (.iconst 1, 1) := dLb_43.2.2.2.1
theorem dL_law_736 : decode cL_law 736 = .ok (.iadd, 1) := dLb_43.2.2.2.2.1
theorem dL_law_737 : decode cL_law 737 = .ok (.iaload, 1) := dLb_43.2.2.2.2.2.1
theorem dL_law_738 : decode cL_law 738 = .ok (.invokevirtual 77, 3) := dLb_43.2.2.2.2.2.2.1
theorem dL_law_741 : decode cL_law 741 = .ok (.pop, 1) := dLb_43.2.2.2.2.2.2.2.1
theorem dL_law_742 : decode cL_law 742 = .ok (.aload_n 2, 1) := dLb_43.2.2.2.2.2.2.2.2.1
theorem dL_law_743 : decode cL_law 743 = .ok (.aload_n 0, 1) := dLb_43.2.2.2.2.2.2.2.2.2
theorem dLb_44 : (decode cL_law 744 = .ok (.iload_n 3, 1)) ∧ (decode cL_law 745 = .ok (.iconst 1, 1)) ∧ (decode cL_law 746 = .ok (.iadd, 1)) ∧ (decode cL_law 747 = .ok (.iaload, 1)) ∧ (decode cL_law 748 = .ok (.invokevirtual 80, 3)) ∧ (decode cL_law 751 = .ok (.pop, 1)) ∧ (decode cL_law 752 = .ok (.goto 1052, 3)) ∧ (decode cL_law 755 = .ok (.aload_n 1, 1)) ∧ (decode cL_law 756 = .ok (.aload_n 0, 1)) ∧ (decode cL_law 757 = .ok (.iload_n 3, 1)) := by decide +kernel
theorem dL_law_744 : decode cL_law 744 = .ok (.iload_n 3, 1) := dLb_44.1
theorem dL_law_745 : decode cL_law 745 = .ok (.iconst 1, 1) := dLb_44.2.1
theorem dL_law_746 : decode cL_law 746 = .ok (.iadd, 1) := dLb_44.2.2.1
theorem dL_law_747 : decode cL_law 747 = .ok (.iaload, 1) := dLb_44.2.2.2.1
theorem dL_law_748 : decode cL_law 748 = .ok (.invokevirtual 80, 3) := dLb_44.2.2.2.2.1
theorem dL_law_751 : decode cL_law 751 = .ok (.pop, 1) := dLb_44.2.2.2.2.2.1
theorem dL_law_752 : decode cL_law 752 = .ok (.goto 1052, 3) := dLb_44.2.2.2.2.2.2.1
theorem dL_law_755 : decode cL_law 755 = .ok (.aload_n 1, 1) := dLb_44.2.2.2.2.2.2.2.1
theorem dL_law_756 : decode cL_law 756 = .ok (.aload_n 0, 1) := dLb_44.2.2.2.2.2.2.2.2.1
theorem dL_law_757 : decode cL_law 757 = .ok (.iload_n 3, 1) := dLb_44.2.2.2.2.2.2.2.2.2
theorem dLb_45 : (decode cL_law 758 = .ok (.iconst 1, 1)) ∧ (decode cL_law 759 = .ok (.iadd, 1)) ∧ (decode cL_law 760 = .ok (.iaload, 1)) ∧ (decode cL_law 761 = .ok (.aload_n 0, 1)) ∧ (decode cL_law 762 = .ok (.iload_n 3, 1)) ∧ (decode cL_law 763 = .ok (.iconst 2, 1)) ∧ (decode cL_law 764 = .ok (.iadd, 1)) ∧ (decode cL_law 765 = .ok (.iaload, 1)) ∧ (decode cL_law 766 = .ok (.invokevirtual 81, 3)) ∧ (decode cL_law 769 = .ok (.pop, 1)) := by decide +kernel
theorem dL_law_758 : decode cL_law 758 = .ok (.iconst 1, 1) := dLb_45.1
theorem dL_law_759 : decode cL_law 759 = .ok (.iadd, 1) := dLb_45.2.1
theorem dL_law_760 : decode cL_law 760 = .ok (.iaload, 1) := dLb_45.2.2.1
theorem dL_law_761 : decode cL_law 761 = .ok (.aload_n 0, 1) := dLb_45.2.2.2.1
theorem dL_law_762 : decode cL_law 762 = .ok (.iload_n 3, 1) := dLb_45.2.2.2.2.1
theorem dL_law_763 : decode cL_law 763 = .ok (.iconst 2, 1) := dLb_45.2.2.2.2.2.1
theorem dL_law_764 : decode cL_law 764 = .ok (.iadd, 1) := dLb_45.2.2.2.2.2.2.1
theorem dL_law_765 : decode cL_law 765 = .ok (.iaload, 1) := dLb_45.2.2.2.2.2.2.2.1
theorem dL_law_766 : decode cL_law 766 = .ok (.invokevirtual 81, 3) := dLb_45.2.2.2.2.2.2.2.2.1
theorem dL_law_769 : decode cL_law 769 = .ok (.pop, 1) := dLb_45.2.2.2.2.2.2.2.2.2
theorem dLb_46 : (decode cL_law 770 = .ok (.aload_n 2, 1)) ∧ (decode cL_law 771 = .ok (.aload_n 0, 1)) ∧ (decode cL_law 772 = .ok (.iload_n 3, 1)) ∧ (decode cL_law 773 = .ok (.iconst 1, 1)) ∧ (decode cL_law 774 = .ok (.iadd, 1)) ∧ (decode cL_law 775 = .ok (.iaload, 1)) ∧ (decode cL_law 776 = .ok (.aload_n 0, 1)) ∧ (decode cL_law 777 = .ok (.iload_n 3, 1)) ∧ (decode cL_law 778 = .ok (.iconst 2, 1)) ∧ (decode cL_law 779 = .ok (.iadd, 1)) := by decide +kernel
theorem dL_law_770 : decode cL_law 770 = .ok (.aload_n 2, 1) := dLb_46.1
theorem dL_law_771 : decode cL_law 771 = .ok (.aload_n 0, 1) := dLb_46.2.1
theorem dL_law_772 : decode cL_law 772 = .ok (.iload_n 3, 1) := dLb_46.2.2.1
theorem dL_law_773 : decode cL_law 773 = .ok (.iconst 1, 1) := dLb_46.2.2.2.1
theorem dL_law_774 : decode cL_law 774 = .ok (.iadd, 1) := dLb_46.2.2.2.2.1
theorem dL_law_775 : decode cL_law 775 = .ok (.iaload, 1) := dLb_46.2.2.2.2.2.1
theorem dL_law_776 : decode cL_law 776 = .ok (.aload_n 0, 1) := dLb_46.2.2.2.2.2.2.1
theorem dL_law_777 : decode cL_law 777 = .ok (.iload_n 3, 1) := dLb_46.2.2.2.2.2.2.2.1
theorem dL_law_778 : decode cL_law 778 = .ok (.iconst 2, 1) := dLb_46.2.2.2.2.2.2.2.2.1
theorem dL_law_779 : decode cL_law 779 = .ok (.iadd, 1) := dLb_46.2.2.2.2.2.2.2.2.2
theorem dLb_47 : (decode cL_law 780 = .ok (.iaload, 1)) ∧ (decode cL_law 781 = .ok (.invokevirtual 84, 3)) ∧ (decode cL_law 784 = .ok (.pop, 1)) ∧ (decode cL_law 785 = .ok (.goto 1019, 3)) ∧ (decode cL_law 788 = .ok (.aload_n 1, 1)) ∧ (decode cL_law 789 = .ok (.aload_n 0, 1)) ∧ (decode cL_law 790 = .ok (.iload_n 3, 1)) ∧ (decode cL_law 791 = .ok (.iconst 1, 1)) ∧ (decode cL_law 792 = .ok (.iadd, 1)) ∧ (decode cL_law 793 = .ok (.iaload, 1)) := by decide +kernel
theorem dL_law_780 : decode cL_law 780 = .ok (.iaload, 1) := dLb_47.1
theorem dL_law_781 : decode cL_law 781 = .ok (.invokevirtual 84, 3) := dLb_47.2.1
theorem dL_law_784 : decode cL_law 784 = .ok (.pop, 1) := dLb_47.2.2.1
theorem dL_law_785 : decode cL_law 785 = .ok (.goto 1019, 3) := dLb_47.2.2.2.1
theorem dL_law_788 : decode cL_law 788 = .ok (.aload_n 1, 1) := dLb_47.2.2.2.2.1
theorem dL_law_789 : decode cL_law 789 = .ok (.aload_n 0, 1) := dLb_47.2.2.2.2.2.1
theorem dL_law_790 : decode cL_law 790 = .ok (.iload_n 3, 1) := dLb_47.2.2.2.2.2.2.1
theorem dL_law_791 : decode cL_law 791 = .ok (.iconst 1, 1) := dLb_47.2.2.2.2.2.2.2.1
theorem dL_law_792 : decode cL_law 792 = .ok (.iadd, 1) := dLb_47.2.2.2.2.2.2.2.2.1
theorem dL_law_793 : decode cL_law 793 = .ok (.iaload, 1) := dLb_47.2.2.2.2.2.2.2.2.2
theorem dLb_48 : (decode cL_law 794 = .ok (.aload_n 0, 1)) ∧ (decode cL_law 795 = .ok (.iload_n 3, 1)) ∧ (decode cL_law 796 = .ok (.iconst 2, 1)) ∧ (decode cL_law 797 = .ok (.iadd, 1)) ∧ (decode cL_law 798 = .ok (.iaload, 1)) ∧ (decode cL_law 799 = .ok (.invokevirtual 85, 3)) ∧ (decode cL_law 802 = .ok (.pop, 1)) ∧ (decode cL_law 803 = .ok (.aload_n 2, 1)) ∧ (decode cL_law 804 = .ok (.aload_n 0, 1)) ∧ (decode cL_law 805 = .ok (.iload_n 3, 1)) := by decide +kernel
theorem dL_law_794 : decode cL_law 794 = .ok (.aload_n 0, 1) := dLb_48.1
theorem dL_law_795 : decode cL_law 795 = .ok (.iload_n 3, 1) := dLb_48.2.1
theorem dL_law_796 : decode cL_law 796 = .ok (.iconst 2, 1) := dLb_48.2.2.1
theorem dL_law_797 : decode cL_law 797 = .ok (.iadd, 1) := dLb_48.2.2.2.1
theorem dL_law_798 : decode cL_law 798 = .ok (.iaload, 1) := dLb_48.2.2.2.2.1
theorem dL_law_799 : decode cL_law 799 = .ok (.invokevirtual 85, 3) := dLb_48.2.2.2.2.2.1
theorem dL_law_802 : decode cL_law 802 = .ok (.pop, 1) := dLb_48.2.2.2.2.2.2.1
theorem dL_law_803 : decode cL_law 803 = .ok (.aload_n 2, 1) := dLb_48.2.2.2.2.2.2.2.1
theorem dL_law_804 : decode cL_law 804 = .ok (.aload_n 0, 1) := dLb_48.2.2.2.2.2.2.2.2.1
theorem dL_law_805 : decode cL_law 805 = .ok (.iload_n 3, 1) := dLb_48.2.2.2.2.2.2.2.2.2
theorem dLb_49 : (decode cL_law 806 = .ok (.iconst 1, 1)) ∧ (decode cL_law 807 = .ok (.iadd, 1)) ∧ (decode cL_law 808 = .ok (.iaload, 1)) ∧ (decode cL_law 809 = .ok (.aload_n 0, 1)) ∧ (decode cL_law 810 = .ok (.iload_n 3, 1)) ∧ (decode cL_law 811 = .ok (.iconst 2, 1)) ∧ (decode cL_law 812 = .ok (.iadd, 1)) ∧ (decode cL_law 813 = .ok (.iaload, 1)) ∧ (decode cL_law 814 = .ok (.invokevirtual 88, 3)) ∧ (decode cL_law 817 = .ok (.pop, 1)) := by decide +kernel
theorem dL_law_806 : decode cL_law 806 = .ok (.iconst 1, 1) := dLb_49.1
theorem dL_law_807 : decode cL_law 807 = .ok (.iadd, 1) := dLb_49.2.1
theorem dL_law_808 : decode cL_law 808 = .ok (.iaload, 1) := dLb_49.2.2.1
theorem dL_law_809 : decode cL_law 809 = .ok (.aload_n 0, 1) := dLb_49.2.2.2.1
theorem dL_law_810 : decode cL_law 810 = .ok (.iload_n 3, 1) := dLb_49.2.2.2.2.1
theorem dL_law_811 : decode cL_law 811 = .ok (.iconst 2, 1) := dLb_49.2.2.2.2.2.1
theorem dL_law_812 : decode cL_law 812 = .ok (.iadd, 1) := dLb_49.2.2.2.2.2.2.1
theorem dL_law_813 : decode cL_law 813 = .ok (.iaload, 1) := dLb_49.2.2.2.2.2.2.2.1
theorem dL_law_814 : decode cL_law 814 = .ok (.invokevirtual 88, 3) := dLb_49.2.2.2.2.2.2.2.2.1
theorem dL_law_817 : decode cL_law 817 = .ok (.pop, 1) := dLb_49.2.2.2.2.2.2.2.2.2
theorem dLb_50 : (decode cL_law 818 = .ok (.goto 986, 3)) ∧ (decode cL_law 821 = .ok (.aload_n 1, 1)) ∧ (decode cL_law 822 = .ok (.aload_n 0, 1)) ∧ (decode cL_law 823 = .ok (.iload_n 3, 1)) ∧ (decode cL_law 824 = .ok (.iconst 1, 1)) ∧ (decode cL_law 825 = .ok (.iadd, 1)) ∧ (decode cL_law 826 = .ok (.iaload, 1)) ∧ (decode cL_law 827 = .ok (.aload_n 0, 1)) ∧ (decode cL_law 828 = .ok (.iload_n 3, 1)) ∧ (decode cL_law 829 = .ok (.iconst 2, 1)) := by decide +kernel
theorem dL_law_818 : decode cL_law 818 = .ok (.goto 986, 3) := dLb_50.1
theorem dL_law_821 : decode cL_law 821 = .ok (.aload_n 1, 1) := dLb_50.2.1
theorem dL_law_822 : decode cL_law 822 = .ok (.aload_n 0, 1) := dLb_50.2.2.1
theorem dL_law_823 : decode cL_law 823 = .ok (.iload_n 3, 1) := dLb_50.2.2.2.1
theorem dL_law_824 : decode cL_law 824 = .ok (.iconst 1, 1) := dLb_50.2.2.2.2.1
theorem dL_law_825 : decode cL_law 825 = .ok (.iadd, 1) := dLb_50.2.2.2.2.2.1
theorem dL_law_826 : decode cL_law 826 = .ok (.iaload, 1) := dLb_50.2.2.2.2.2.2.1
theorem dL_law_827 : decode cL_law 827 = .ok (.aload_n 0, 1) := dLb_50.2.2.2.2.2.2.2.1
theorem dL_law_828 : decode cL_law 828 = .ok (.iload_n 3, 1) := dLb_50.2.2.2.2.2.2.2.2.1
theorem dL_law_829 : decode cL_law 829 = .ok (.iconst 2, 1) := dLb_50.2.2.2.2.2.2.2.2.2
theorem dLb_51 : (decode cL_law 830 = .ok (.iadd, 1)) ∧ (decode cL_law 831 = .ok (.iaload, 1)) ∧ (decode cL_law 832 = .ok (.aload_n 0, 1)) ∧ (decode cL_law 833 = .ok (.iload_n 3, 1)) ∧ (decode cL_law 834 = .ok (.iconst 3, 1)) ∧ (decode cL_law 835 = .ok (.iadd, 1)) ∧ (decode cL_law 836 = .ok (.iaload, 1)) ∧ (decode cL_law 837 = .ok (.invokevirtual 89, 3)) ∧ (decode cL_law 840 = .ok (.pop, 1)) ∧ (decode cL_law 841 = .ok (.aload_n 2, 1)) := by decide +kernel
theorem dL_law_830 : decode cL_law 830 = .ok (.iadd, 1) := dLb_51.1
theorem dL_law_831 : decode cL_law 831 = .ok (.iaload, 1) := dLb_51.2.1
theorem dL_law_832 : decode cL_law 832 = .ok (.aload_n 0, 1) := dLb_51.2.2.1
theorem dL_law_833 : decode cL_law 833 = .ok (.iload_n 3, 1) := dLb_51.2.2.2.1
theorem dL_law_834 : decode cL_law 834 = .ok (.iconst 3, 1) := dLb_51.2.2.2.2.1
theorem dL_law_835 : decode cL_law 835 = .ok (.iadd, 1) := dLb_51.2.2.2.2.2.1
theorem dL_law_836 : decode cL_law 836 = .ok (.iaload, 1) := dLb_51.2.2.2.2.2.2.1
theorem dL_law_837 : decode cL_law 837 = .ok (.invokevirtual 89, 3) := dLb_51.2.2.2.2.2.2.2.1
theorem dL_law_840 : decode cL_law 840 = .ok (.pop, 1) := dLb_51.2.2.2.2.2.2.2.2.1
theorem dL_law_841 : decode cL_law 841 = .ok (.aload_n 2, 1) := dLb_51.2.2.2.2.2.2.2.2.2
theorem dLb_52 : (decode cL_law 842 = .ok (.aload_n 0, 1)) ∧ (decode cL_law 843 = .ok (.iload_n 3, 1)) ∧ (decode cL_law 844 = .ok (.iconst 1, 1)) ∧ (decode cL_law 845 = .ok (.iadd, 1)) ∧ (decode cL_law 846 = .ok (.iaload, 1)) ∧ (decode cL_law 847 = .ok (.aload_n 0, 1)) ∧ (decode cL_law 848 = .ok (.iload_n 3, 1)) ∧ (decode cL_law 849 = .ok (.iconst 2, 1)) ∧ (decode cL_law 850 = .ok (.iadd, 1)) ∧ (decode cL_law 851 = .ok (.iaload, 1)) := by decide +kernel
theorem dL_law_842 : decode cL_law 842 = .ok (.aload_n 0, 1) := dLb_52.1
theorem dL_law_843 : decode cL_law 843 = .ok (.iload_n 3, 1) := dLb_52.2.1
theorem dL_law_844 : decode cL_law 844 = .ok (.iconst 1, 1) := dLb_52.2.2.1
theorem dL_law_845 : decode cL_law 845 = .ok (.iadd, 1) := dLb_52.2.2.2.1
theorem dL_law_846 : decode cL_law 846 = .ok (.iaload, 1) := dLb_52.2.2.2.2.1
theorem dL_law_847 : decode cL_law 847 = .ok (.aload_n 0, 1) := dLb_52.2.2.2.2.2.1
theorem dL_law_848 : decode cL_law 848 = .ok (.iload_n 3, 1) := dLb_52.2.2.2.2.2.2.1
theorem dL_law_849 : decode cL_law 849 = .ok (.iconst 2, 1) := dLb_52.2.2.2.2.2.2.2.1
theorem dL_law_850 : decode cL_law 850 = .ok (.iadd, 1) := dLb_52.2.2.2.2.2.2.2.2.1
theorem dL_law_851 : decode cL_law 851 = .ok (.iaload, 1) := dLb_52.2.2.2.2.2.2.2.2.2
theorem dLb_53 : (decode cL_law 852 = .ok (.aload_n 0, 1)) ∧ (decode cL_law 853 = .ok (.iload_n 3, 1)) ∧ (decode cL_law 854 = .ok (.iconst 3, 1)) ∧ (decode cL_law 855 = .ok (.iadd, 1)) ∧ (decode cL_law 856 = .ok (.iaload, 1)) ∧ (decode cL_law 857 = .ok (.invokevirtual 92, 3)) ∧ (decode cL_law 860 = .ok (.pop, 1)) ∧ (decode cL_law 861 = .ok (.goto 943, 3)) ∧ (decode cL_law 864 = .ok (.aload_n 1, 1)) ∧ (decode cL_law 865 = .ok (.aload_n 0, 1)) := by decide +kernel
theorem dL_law_852 : decode cL_law 852 = .ok (.aload_n 0, 1) := dLb_53.1
theorem dL_law_853 : decode cL_law 853 = .ok (.iload_n 3, 1) := dLb_53.2.1
theorem dL_law_854 : decode cL_law 854 = .ok (.iconst 3, 1) := dLb_53.2.2.1
theorem dL_law_855 : decode cL_law 855 = .ok (.iadd, 1) := dLb_53.2.2.2.1
theorem dL_law_856 : decode cL_law 856 = .ok (.iaload, 1) := dLb_53.2.2.2.2.1
theorem dL_law_857 : decode cL_law 857 = .ok (.invokevirtual 92, 3) := dLb_53.2.2.2.2.2.1
theorem dL_law_860 : decode cL_law 860 = .ok (.pop, 1) := dLb_53.2.2.2.2.2.2.1
theorem dL_law_861 : decode cL_law 861 = .ok (.goto 943, 3) := dLb_53.2.2.2.2.2.2.2.1
theorem dL_law_864 : decode cL_law 864 = .ok (.aload_n 1, 1) := dLb_53.2.2.2.2.2.2.2.2.1
theorem dL_law_865 : decode cL_law 865 = .ok (.aload_n 0, 1) := dLb_53.2.2.2.2.2.2.2.2.2
theorem dLb_54 : (decode cL_law 866 = .ok (.iload_n 3, 1)) ∧ (decode cL_law 867 = .ok (.iconst 1, 1)) ∧ (decode cL_law 868 = .ok (.iadd, 1)) ∧ (decode cL_law 869 = .ok (.iaload, 1)) ∧ (decode cL_law 870 = .ok (.aload_n 0, 1)) ∧ (decode cL_law 871 = .ok (.iload_n 3, 1)) ∧ (decode cL_law 872 = .ok (.iconst 2, 1)) ∧ (decode cL_law 873 = .ok (.iadd, 1)) ∧ (decode cL_law 874 = .ok (.iaload, 1)) ∧ (decode cL_law 875 = .ok (.invokevirtual 93, 3)) := by decide +kernel
theorem dL_law_866 : decode cL_law 866 = .ok (.iload_n 3, 1) := dLb_54.1
theorem dL_law_867 : decode cL_law 867 = .ok (.iconst 1, 1) := dLb_54.2.1
theorem dL_law_868 : decode cL_law 868 = .ok (.iadd, 1) := dLb_54.2.2.1
theorem dL_law_869 : decode cL_law 869 = .ok (.iaload, 1) := dLb_54.2.2.2.1
theorem dL_law_870 : decode cL_law 870 = .ok (.aload_n 0, 1) := dLb_54.2.2.2.2.1
theorem dL_law_871 : decode cL_law 871 = .ok (.iload_n 3, 1) := dLb_54.2.2.2.2.2.1
theorem dL_law_872 : decode cL_law 872 = .ok (.iconst 2, 1) := dLb_54.2.2.2.2.2.2.1
theorem dL_law_873 : decode cL_law 873 = .ok (.iadd, 1) := dLb_54.2.2.2.2.2.2.2.1
theorem dL_law_874 : decode cL_law 874 = .ok (.iaload, 1) := dLb_54.2.2.2.2.2.2.2.2.1
theorem dL_law_875 : decode cL_law 875 = .ok (.invokevirtual 93, 3) := dLb_54.2.2.2.2.2.2.2.2.2
theorem dLb_55 : (decode cL_law 878 = .ok (.pop, 1)) ∧ (decode cL_law 879 = .ok (.aload_n 2, 1)) ∧ (decode cL_law 880 = .ok (.aload_n 0, 1)) ∧ (decode cL_law 881 = .ok (.iload_n 3, 1)) ∧ (decode cL_law 882 = .ok (.iconst 1, 1)) ∧ (decode cL_law 883 = .ok (.iadd, 1)) ∧ (decode cL_law 884 = .ok (.iaload, 1)) ∧ (decode cL_law 885 = .ok (.aload_n 0, 1)) ∧ (decode cL_law 886 = .ok (.iload_n 3, 1)) ∧ (decode cL_law 887 = .ok (.iconst 2, 1)) := by decide +kernel
theorem dL_law_878 : decode cL_law 878 = .ok (.pop, 1) := dLb_55.1
theorem dL_law_879 : decode cL_law 879 = .ok (.aload_n 2, 1) := dLb_55.2.1
theorem dL_law_880 : decode cL_law 880 = .ok (.aload_n 0, 1) := dLb_55.2.2.1
theorem dL_law_881 : decode cL_law 881 = .ok (.iload_n 3, 1) := dLb_55.2.2.2.1
theorem dL_law_882 : decode cL_law 882 = .ok (.iconst 1, 1) := dLb_55.2.2.2.2.1
theorem dL_law_883 : decode cL_law 883 = .ok (.iadd, 1) := dLb_55.2.2.2.2.2.1
theorem dL_law_884 : decode cL_law 884 = .ok (.iaload, 1) := dLb_55.2.2.2.2.2.2.1
theorem dL_law_885 : decode cL_law 885 = .ok (.aload_n 0, 1) := dLb_55.2.2.2.2.2.2.2.1
theorem dL_law_886 : decode cL_law 886 = .ok (.iload_n 3, 1) := dLb_55.2.2.2.2.2.2.2.2.1
theorem dL_law_887 : decode cL_law 887 = .ok (.iconst 2, 1) := dLb_55.2.2.2.2.2.2.2.2.2
theorem dLb_56 : (decode cL_law 888 = .ok (.iadd, 1)) ∧ (decode cL_law 889 = .ok (.iaload, 1)) ∧ (decode cL_law 890 = .ok (.invokevirtual 96, 3)) ∧ (decode cL_law 893 = .ok (.pop, 1)) ∧ (decode cL_law 894 = .ok (.goto 910, 3)) ∧ (decode cL_law 897 = .ok (.aload_n 1, 1)) ∧ (decode cL_law 898 = .ok (.aload_n 0, 1)) ∧ (decode cL_law 899 = .ok (.iload_n 3, 1)) ∧ (decode cL_law 900 = .ok (.iconst 1, 1)) ∧ (decode cL_law 901 = .ok (.iadd, 1)) := by decide +kernel
theorem dL_law_888 : decode cL_law 888 = .ok (.iadd, 1) := dLb_56.1
theorem dL_law_889 : decode cL_law 889 = .ok (.iaload, 1) := dLb_56.2.1
theorem dL_law_890 : decode cL_law 890 = .ok (.invokevirtual 96, 3) := dLb_56.2.2.1
theorem dL_law_893 : decode cL_law 893 = .ok (.pop, 1) := dLb_56.2.2.2.1
theorem dL_law_894 : decode cL_law 894 = .ok (.goto 910, 3) := dLb_56.2.2.2.2.1
theorem dL_law_897 : decode cL_law 897 = .ok (.aload_n 1, 1) := dLb_56.2.2.2.2.2.1
theorem dL_law_898 : decode cL_law 898 = .ok (.aload_n 0, 1) := dLb_56.2.2.2.2.2.2.1
theorem dL_law_899 : decode cL_law 899 = .ok (.iload_n 3, 1) := dLb_56.2.2.2.2.2.2.2.1
theorem dL_law_900 : decode cL_law 900 = .ok (.iconst 1, 1) := dLb_56.2.2.2.2.2.2.2.2.1
theorem dL_law_901 : decode cL_law 901 = .ok (.iadd, 1) := dLb_56.2.2.2.2.2.2.2.2.2
theorem dLb_57 : (decode cL_law 902 = .ok (.iaload, 1)) ∧ (decode cL_law 903 = .ok (.aload_n 0, 1)) ∧ (decode cL_law 904 = .ok (.iload_n 3, 1)) ∧ (decode cL_law 905 = .ok (.iconst 2, 1)) ∧ (decode cL_law 906 = .ok (.iadd, 1)) ∧ (decode cL_law 907 = .ok (.iaload, 1)) ∧ (decode cL_law 908 = .ok (.invokevirtual 97, 3)) ∧ (decode cL_law 911 = .ok (.pop, 1)) ∧ (decode cL_law 912 = .ok (.aload_n 2, 1)) ∧ (decode cL_law 913 = .ok (.aload_n 0, 1)) := by decide +kernel
theorem dL_law_902 : decode cL_law 902 = .ok (.iaload, 1) := dLb_57.1
theorem dL_law_903 : decode cL_law 903 = .ok (.aload_n 0, 1) := dLb_57.2.1
theorem dL_law_904 : decode cL_law 904 = .ok (.iload_n 3, 1) := dLb_57.2.2.1
theorem dL_law_905 : decode cL_law 905 = .ok (.iconst 2, 1) := dLb_57.2.2.2.1
theorem dL_law_906 : decode cL_law 906 = .ok (.iadd, 1) := dLb_57.2.2.2.2.1
theorem dL_law_907 : decode cL_law 907 = .ok (.iaload, 1) := dLb_57.2.2.2.2.2.1
theorem dL_law_908 : decode cL_law 908 = .ok (.invokevirtual 97, 3) := dLb_57.2.2.2.2.2.2.1
theorem dL_law_911 : decode cL_law 911 = .ok (.pop, 1) := dLb_57.2.2.2.2.2.2.2.1
theorem dL_law_912 : decode cL_law 912 = .ok (.aload_n 2, 1) := dLb_57.2.2.2.2.2.2.2.2.1
theorem dL_law_913 : decode cL_law 913 = .ok (.aload_n 0, 1) := dLb_57.2.2.2.2.2.2.2.2.2
theorem dLb_58 : (decode cL_law 914 = .ok (.iload_n 3, 1)) ∧ (decode cL_law 915 = .ok (.iconst 1, 1)) ∧ (decode cL_law 916 = .ok (.iadd, 1)) ∧ (decode cL_law 917 = .ok (.iaload, 1)) ∧ (decode cL_law 918 = .ok (.aload_n 0, 1)) ∧ (decode cL_law 919 = .ok (.iload_n 3, 1)) ∧ (decode cL_law 920 = .ok (.iconst 2, 1)) ∧ (decode cL_law 921 = .ok (.iadd, 1)) ∧ (decode cL_law 922 = .ok (.iaload, 1)) ∧ (decode cL_law 923 = .ok (.invokevirtual 100, 3)) := by decide +kernel
theorem dL_law_914 : decode cL_law 914 = .ok (.iload_n 3, 1) := dLb_58.1
theorem dL_law_915 : decode cL_law 915 = .ok (.iconst 1, 1) := dLb_58.2.1
theorem dL_law_916 : decode cL_law 916 = .ok (.iadd, 1) := dLb_58.2.2.1
theorem dL_law_917 : decode cL_law 917 = .ok (.iaload, 1) := dLb_58.2.2.2.1
theorem dL_law_918 : decode cL_law 918 = .ok (.aload_n 0, 1) := dLb_58.2.2.2.2.1
theorem dL_law_919 : decode cL_law 919 = .ok (.iload_n 3, 1) := dLb_58.2.2.2.2.2.1
theorem dL_law_920 : decode cL_law 920 = .ok (.iconst 2, 1) := dLb_58.2.2.2.2.2.2.1
theorem dL_law_921 : decode cL_law 921 = .ok (.iadd, 1) := dLb_58.2.2.2.2.2.2.2.1
theorem dL_law_922 : decode cL_law 922 = .ok (.iaload, 1) := dLb_58.2.2.2.2.2.2.2.2.1
theorem dL_law_923 : decode cL_law 923 = .ok (.invokevirtual 100, 3) := dLb_58.2.2.2.2.2.2.2.2.2
theorem dLb_59 : (decode cL_law 926 = .ok (.pop, 1)) ∧ (decode cL_law 927 = .ok (.goto 877, 3)) ∧ (decode cL_law 930 = .ok (.aload_n 1, 1)) ∧ (decode cL_law 931 = .ok (.aload_n 0, 1)) ∧ (decode cL_law 932 = .ok (.iload_n 3, 1)) ∧ (decode cL_law 933 = .ok (.iconst 1, 1)) ∧ (decode cL_law 934 = .ok (.iadd, 1)) ∧ (decode cL_law 935 = .ok (.iaload, 1)) ∧ (decode cL_law 936 = .ok (.aload_n 0, 1)) ∧ (decode cL_law 937 = .ok (.iload_n 3, 1)) := by decide +kernel
theorem dL_law_926 : decode cL_law 926 = .ok (.pop, 1) := dLb_59.1
theorem dL_law_927 : decode cL_law 927 = .ok (.goto 877, 3) := dLb_59.2.1
theorem dL_law_930 : decode cL_law 930 = .ok (.aload_n 1, 1) := dLb_59.2.2.1
theorem dL_law_931 : decode cL_law 931 = .ok (.aload_n 0, 1) := dLb_59.2.2.2.1
theorem dL_law_932 : decode cL_law 932 = .ok (.iload_n 3, 1) := dLb_59.2.2.2.2.1
theorem dL_law_933 : decode cL_law 933 = .ok (.iconst 1, 1) := dLb_59.2.2.2.2.2.1
theorem dL_law_934 : decode cL_law 934 = .ok (.iadd, 1) := dLb_59.2.2.2.2.2.2.1
theorem dL_law_935 : decode cL_law 935 = .ok (.iaload, 1) := dLb_59.2.2.2.2.2.2.2.1
theorem dL_law_936 : decode cL_law 936 = .ok (.aload_n 0, 1) := dLb_59.2.2.2.2.2.2.2.2.1
theorem dL_law_937 : decode cL_law 937 = .ok (.iload_n 3, 1) := dLb_59.2.2.2.2.2.2.2.2.2
theorem dLb_60 : (decode cL_law 938 = .ok (.iconst 2, 1)) ∧ (decode cL_law 939 = .ok (.iadd, 1)) ∧ (decode cL_law 940 = .ok (.iaload, 1)) ∧ (decode cL_law 941 = .ok (.aload_n 0, 1)) ∧ (decode cL_law 942 = .ok (.iload_n 3, 1)) ∧ (decode cL_law 943 = .ok (.iconst 3, 1)) ∧ (decode cL_law 944 = .ok (.iadd, 1)) ∧ (decode cL_law 945 = .ok (.iaload, 1)) ∧ (decode cL_law 946 = .ok (.invokevirtual 101, 3)) ∧ (decode cL_law 949 = .ok (.pop, 1)) := by decide +kernel
theorem dL_law_938 : decode cL_law 938 = .ok (.iconst 2, 1) := dLb_60.1
theorem dL_law_939 : decode cL_law 939 = .ok (.iadd, 1) := dLb_60.2.1
theorem dL_law_940 : decode cL_law 940 = .ok (.iaload, 1) := dLb_60.2.2.1
theorem dL_law_941 : decode cL_law 941 = .ok (.aload_n 0, 1) := dLb_60.2.2.2.1
theorem dL_law_942 : decode cL_law 942 = .ok (.iload_n 3, 1) := dLb_60.2.2.2.2.1
theorem dL_law_943 : decode cL_law 943 = .ok (.iconst 3, 1) := dLb_60.2.2.2.2.2.1
theorem dL_law_944 : decode cL_law 944 = .ok (.iadd, 1) := dLb_60.2.2.2.2.2.2.1
theorem dL_law_945 : decode cL_law 945 = .ok (.iaload, 1) := dLb_60.2.2.2.2.2.2.2.1
theorem dL_law_946 : decode cL_law 946 = .ok (.invokevirtual 101, 3) := dLb_60.2.2.2.2.2.2.2.2.1
theorem dL_law_949 : decode cL_law 949 = .ok (.pop, 1) := dLb_60.2.2.2.2.2.2.2.2.2
theorem dLb_61 : (decode cL_law 950 = .ok (.aload_n 2, 1)) ∧ (decode cL_law 951 = .ok (.aload_n 0, 1)) ∧ (decode cL_law 952 = .ok (.iload_n 3, 1)) ∧ (decode cL_law 953 = .ok (.iconst 1, 1)) ∧ (decode cL_law 954 = .ok (.iadd, 1)) ∧ (decode cL_law 955 = .ok (.iaload, 1)) ∧ (decode cL_law 956 = .ok (.aload_n 0, 1)) ∧ (decode cL_law 957 = .ok (.iload_n 3, 1)) ∧ (decode cL_law 958 = .ok (.iconst 2, 1)) ∧ (decode cL_law 959 = .ok (.iadd, 1)) := by decide +kernel
theorem dL_law_950 : decode cL_law 950 = .ok (.aload_n 2, 1) := dLb_61.1
theorem dL_law_951 : decode cL_law 951 = .ok (.aload_n 0, 1) := dLb_61.2.1
theorem dL_law_952 : decode cL_law 952 = .ok (.iload_n 3, 1) := dLb_61.2.2.1
theorem dL_law_953 : decode cL_law 953 = .ok (.iconst 1, 1) := dLb_61.2.2.2.1
theorem dL_law_954 : decode cL_law 954 = .ok (.iadd, 1) := dLb_61.2.2.2.2.1
theorem dL_law_955 : decode cL_law 955 = .ok (.iaload, 1) := dLb_61.2.2.2.2.2.1
theorem dL_law_956 : decode cL_law 956 = .ok (.aload_n 0, 1) := dLb_61.2.2.2.2.2.2.1
theorem dL_law_957 : decode cL_law 957 = .ok (.iload_n 3, 1) := dLb_61.2.2.2.2.2.2.2.1
theorem dL_law_958 : decode cL_law 958 = .ok (.iconst 2, 1) := dLb_61.2.2.2.2.2.2.2.2.1
theorem dL_law_959 : decode cL_law 959 = .ok (.iadd, 1) := dLb_61.2.2.2.2.2.2.2.2.2
theorem dLb_62 : (decode cL_law 960 = .ok (.iaload, 1)) ∧ (decode cL_law 961 = .ok (.aload_n 0, 1)) ∧ (decode cL_law 962 = .ok (.iload_n 3, 1)) ∧ (decode cL_law 963 = .ok (.iconst 3, 1)) ∧ (decode cL_law 964 = .ok (.iadd, 1)) ∧ (decode cL_law 965 = .ok (.iaload, 1)) ∧ (decode cL_law 966 = .ok (.invokevirtual 104, 3)) ∧ (decode cL_law 969 = .ok (.pop, 1)) ∧ (decode cL_law 970 = .ok (.goto 834, 3)) ∧ (decode cL_law 973 = .ok (.aload_n 1, 1)) := by decide +kernel
theorem dL_law_960 : decode cL_law 960 = .ok (.iaload, 1) := dLb_62.1
theorem dL_law_961 : decode cL_law 961 = .ok (.aload_n 0, 1) := dLb_62.2.1
theorem dL_law_962 : decode cL_law 962 = .ok (.iload_n 3, 1) := dLb_62.2.2.1
theorem dL_law_963 : decode cL_law 963 = .ok (.iconst 3, 1) := dLb_62.2.2.2.1
theorem dL_law_964 : decode cL_law 964 = .ok (.iadd, 1) := dLb_62.2.2.2.2.1
theorem dL_law_965 : decode cL_law 965 = .ok (.iaload, 1) := dLb_62.2.2.2.2.2.1
theorem dL_law_966 : decode cL_law 966 = .ok (.invokevirtual 104, 3) := dLb_62.2.2.2.2.2.2.1
theorem dL_law_969 : decode cL_law 969 = .ok (.pop, 1) := dLb_62.2.2.2.2.2.2.2.1
theorem dL_law_970 : decode cL_law 970 = .ok (.goto 834, 3) := dLb_62.2.2.2.2.2.2.2.2.1
theorem dL_law_973 : decode cL_law 973 = .ok (.aload_n 1, 1) := dLb_62.2.2.2.2.2.2.2.2.2
theorem dLb_63 : (decode cL_law 974 = .ok (.aload_n 0, 1)) ∧ (decode cL_law 975 = .ok (.iload_n 3, 1)) ∧ (decode cL_law 976 = .ok (.iconst 1, 1)) ∧ (decode cL_law 977 = .ok (.iadd, 1)) ∧ (decode cL_law 978 = .ok (.iaload, 1)) ∧ (decode cL_law 979 = .ok (.invokevirtual 105, 3)) ∧ (decode cL_law 982 = .ok (.pop, 1)) ∧ (decode cL_law 983 = .ok (.aload_n 2, 1)) ∧ (decode cL_law 984 = .ok (.aload_n 0, 1)) ∧ (decode cL_law 985 = .ok (.iload_n 3, 1)) := by decide +kernel
theorem dL_law_974 : decode cL_law 974 = .ok (.aload_n 0, 1) := dLb_63.1
theorem dL_law_975 : decode cL_law 975 = .ok (.iload_n 3, 1) := dLb_63.2.1
theorem dL_law_976 : decode cL_law 976 = .ok (.iconst 1, 1) := dLb_63.2.2.1
theorem dL_law_977 : decode cL_law 977 = .ok (.iadd, 1) := dLb_63.2.2.2.1
theorem dL_law_978 : decode cL_law 978 = .ok (.iaload, 1) := dLb_63.2.2.2.2.1
theorem dL_law_979 : decode cL_law 979 = .ok (.invokevirtual 105, 3) := dLb_63.2.2.2.2.2.1
theorem dL_law_982 : decode cL_law 982 = .ok (.pop, 1) := dLb_63.2.2.2.2.2.2.1
theorem dL_law_983 : decode cL_law 983 = .ok (.aload_n 2, 1) := dLb_63.2.2.2.2.2.2.2.1
theorem dL_law_984 : decode cL_law 984 = .ok (.aload_n 0, 1) := dLb_63.2.2.2.2.2.2.2.2.1
theorem dL_law_985 : decode cL_law 985 = .ok (.iload_n 3, 1) := dLb_63.2.2.2.2.2.2.2.2.2
theorem dLb_64 : (decode cL_law 986 = .ok (.iconst 1, 1)) ∧ (decode cL_law 987 = .ok (.iadd, 1)) ∧ (decode cL_law 988 = .ok (.iaload, 1)) ∧ (decode cL_law 989 = .ok (.invokevirtual 108, 3)) ∧ (decode cL_law 992 = .ok (.pop, 1)) ∧ (decode cL_law 993 = .ok (.goto 811, 3)) ∧ (decode cL_law 996 = .ok (.aload_n 1, 1)) ∧ (decode cL_law 997 = .ok (.aload_n 0, 1)) ∧ (decode cL_law 998 = .ok (.iload_n 3, 1)) ∧ (decode cL_law 999 = .ok (.iconst 1, 1)) := by decide +kernel
theorem dL_law_986 : decode cL_law 986 = .ok (.iconst 1, 1) := dLb_64.1
theorem dL_law_987 : decode cL_law 987 = .ok (.iadd, 1) := dLb_64.2.1
theorem dL_law_988 : decode cL_law 988 = .ok (.iaload, 1) := dLb_64.2.2.1
theorem dL_law_989 : decode cL_law 989 = .ok (.invokevirtual 108, 3) := dLb_64.2.2.2.1
theorem dL_law_992 : decode cL_law 992 = .ok (.pop, 1) := dLb_64.2.2.2.2.1
theorem dL_law_993 : decode cL_law 993 = .ok (.goto 811, 3) := dLb_64.2.2.2.2.2.1
theorem dL_law_996 : decode cL_law 996 = .ok (.aload_n 1, 1) := dLb_64.2.2.2.2.2.2.1
theorem dL_law_997 : decode cL_law 997 = .ok (.aload_n 0, 1) := dLb_64.2.2.2.2.2.2.2.1
theorem dL_law_998 : decode cL_law 998 = .ok (.iload_n 3, 1) := dLb_64.2.2.2.2.2.2.2.2.1
theorem dL_law_999 : decode cL_law 999 = .ok (.iconst 1, 1) := dLb_64.2.2.2.2.2.2.2.2.2
theorem dLb_65 : (decode cL_law 1000 = .ok (.iadd, 1)) ∧ (decode cL_law 1001 = .ok (.iaload, 1)) ∧ (decode cL_law 1002 = .ok (.invokevirtual 109, 3)) ∧ (decode cL_law 1005 = .ok (.pop, 1)) ∧ (decode cL_law 1006 = .ok (.aload_n 2, 1)) ∧ (decode cL_law 1007 = .ok (.aload_n 0, 1)) ∧ (decode cL_law 1008 = .ok (.iload_n 3, 1)) ∧ (decode cL_law 1009 = .ok (.iconst 1, 1)) ∧ (decode cL_law 1010 = .ok (.iadd, 1)) ∧ (decode cL_law 1011 = .ok (.iaload, 1)) := by decide +kernel
theorem dL_law_1000 : decode cL_law 1000 = .ok (.iadd, 1) := dLb_65.1
theorem dL_law_1001 : decode cL_law 1001 = .ok (.iaload, 1) := dLb_65.2.1
theorem dL_law_1002 : decode cL_law 1002 = .ok (.invokevirtual 109, 3) := dLb_65.2.2.1
theorem dL_law_1005 : decode cL_law 1005 = .ok (.pop, 1) := dLb_65.2.2.2.1
theorem dL_law_1006 : decode cL_law 1006 = .ok (.aload_n 2, 1) := dLb_65.2.2.2.2.1
theorem dL_law_1007 : decode cL_law 1007 = .ok (.aload_n 0, 1) := dLb_65.2.2.2.2.2.1
theorem dL_law_1008 : decode cL_law 1008 = .ok (.iload_n 3, 1) := dLb_65.2.2.2.2.2.2.1
theorem dL_law_1009 : decode cL_law 1009 = .ok (.iconst 1, 1) := dLb_65.2.2.2.2.2.2.2.1
theorem dL_law_1010 : decode cL_law 1010 = .ok (.iadd, 1) := dLb_65.2.2.2.2.2.2.2.2.1
theorem dL_law_1011 : decode cL_law 1011 = .ok (.iaload, 1) := dLb_65.2.2.2.2.2.2.2.2.2
theorem dLb_66 : (decode cL_law 1012 = .ok (.invokevirtual 112, 3)) ∧ (decode cL_law 1015 = .ok (.pop, 1)) ∧ (decode cL_law 1016 = .ok (.goto 788, 3)) ∧ (decode cL_law 1019 = .ok (.aload_n 1, 1)) ∧ (decode cL_law 1020 = .ok (.aload_n 0, 1)) ∧ (decode cL_law 1021 = .ok (.iload_n 3, 1)) ∧ (decode cL_law 1022 = .ok (.iconst 1, 1)) ∧ (decode cL_law 1023 = .ok (.iadd, 1)) ∧ (decode cL_law 1024 = .ok (.iaload, 1)) ∧ (decode cL_law 1025 = .ok (.aload_n 0, 1)) := by decide +kernel
theorem dL_law_1012 : decode cL_law 1012 = .ok (.invokevirtual 112, 3) := dLb_66.1
theorem dL_law_1015 : decode cL_law 1015 = .ok (.pop, 1) := dLb_66.2.1
theorem dL_law_1016 : decode cL_law 1016 = .ok (.goto 788, 3) := dLb_66.2.2.1
theorem dL_law_1019 : decode cL_law 1019 = .ok (.aload_n 1, 1) := dLb_66.2.2.2.1
theorem dL_law_1020 : decode cL_law 1020 = .ok (.aload_n 0, 1) := dLb_66.2.2.2.2.1
theorem dL_law_1021 : decode cL_law 1021 = .ok (.iload_n 3, 1) := dLb_66.2.2.2.2.2.1
theorem dL_law_1022 : decode cL_law 1022 = .ok (.iconst 1, 1) := dLb_66.2.2.2.2.2.2.1
theorem dL_law_1023 : decode cL_law 1023 = .ok (.iadd, 1) := dLb_66.2.2.2.2.2.2.2.1
theorem dL_law_1024 : decode cL_law 1024 = .ok (.iaload, 1) := dLb_66.2.2.2.2.2.2.2.2.1
theorem dL_law_1025 : decode cL_law 1025 = .ok (.aload_n 0, 1) := dLb_66.2.2.2.2.2.2.2.2.2
theorem dLb_67 : (decode cL_law 1026 = .ok (.iload_n 3, 1)) ∧ (decode cL_law 1027 = .ok (.iconst 2, 1)) ∧ (decode cL_law 1028 = .ok (.iadd, 1)) ∧ (decode cL_law 1029 = .ok (.iaload, 1)) ∧ (decode cL_law 1030 = .ok (.aload_n 0, 1)) ∧ (decode cL_law 1031 = .ok (.iload_n 3, 1)) ∧ (decode cL_law 1032 = .ok (.iconst 3, 1)) ∧ (decode cL_law 1033 = .ok (.iadd, 1)) ∧ (decode cL_law 1034 = .ok (.iaload, 1)) ∧ (decode cL_law 1035 = .ok (.invokevirtual 113, 3)) := by decide +kernel
theorem dL_law_1026 : decode cL_law 1026 = .ok (.iload_n 3, 1) := dLb_67.1
theorem dL_law_1027 : decode cL_law 1027 = .ok (.iconst 2, 1) := dLb_67.2.1
theorem dL_law_1028 : decode cL_law 1028 = .ok (.iadd, 1) := dLb_67.2.2.1
theorem dL_law_1029 : decode cL_law 1029 = .ok (.iaload, 1) := dLb_67.2.2.2.1
theorem dL_law_1030 : decode cL_law 1030 = .ok (.aload_n 0, 1) := dLb_67.2.2.2.2.1
theorem dL_law_1031 : decode cL_law 1031 = .ok (.iload_n 3, 1) := dLb_67.2.2.2.2.2.1
theorem dL_law_1032 : decode cL_law 1032 = .ok (.iconst 3, 1) := dLb_67.2.2.2.2.2.2.1
theorem dL_law_1033 : decode cL_law 1033 = .ok (.iadd, 1) := dLb_67.2.2.2.2.2.2.2.1
theorem dL_law_1034 : decode cL_law 1034 = .ok (.iaload, 1) := dLb_67.2.2.2.2.2.2.2.2.1
theorem dL_law_1035 : decode cL_law 1035 = .ok (.invokevirtual 113, 3) := dLb_67.2.2.2.2.2.2.2.2.2
theorem dLb_68 : (decode cL_law 1038 = .ok (.pop, 1)) ∧ (decode cL_law 1039 = .ok (.aload_n 2, 1)) ∧ (decode cL_law 1040 = .ok (.aload_n 0, 1)) ∧ (decode cL_law 1041 = .ok (.iload_n 3, 1)) ∧ (decode cL_law 1042 = .ok (.iconst 1, 1)) ∧ (decode cL_law 1043 = .ok (.iadd, 1)) ∧ (decode cL_law 1044 = .ok (.iaload, 1)) ∧ (decode cL_law 1045 = .ok (.aload_n 0, 1)) ∧ (decode cL_law 1046 = .ok (.iload_n 3, 1)) ∧ (decode cL_law 1047 = .ok (.iconst 2, 1)) := by decide +kernel
theorem dL_law_1038 : decode cL_law 1038 = .ok (.pop, 1) := dLb_68.1
theorem dL_law_1039 : decode cL_law 1039 = .ok (.aload_n 2, 1) := dLb_68.2.1
theorem dL_law_1040 : decode cL_law 1040 = .ok (.aload_n 0, 1) := dLb_68.2.2.1
theorem dL_law_1041 : decode cL_law 1041 = .ok (.iload_n 3, 1) := dLb_68.2.2.2.1
theorem dL_law_1042 : decode cL_law 1042 = .ok (.iconst 1, 1) := dLb_68.2.2.2.2.1
theorem dL_law_1043 : decode cL_law 1043 = .ok (.iadd, 1) := dLb_68.2.2.2.2.2.1
theorem dL_law_1044 : decode cL_law 1044 = .ok (.iaload, 1) := dLb_68.2.2.2.2.2.2.1
theorem dL_law_1045 : decode cL_law 1045 = .ok (.aload_n 0, 1) := dLb_68.2.2.2.2.2.2.2.1
theorem dL_law_1046 : decode cL_law 1046 = .ok (.iload_n 3, 1) := dLb_68.2.2.2.2.2.2.2.2.1
theorem dL_law_1047 : decode cL_law 1047 = .ok (.iconst 2, 1) := dLb_68.2.2.2.2.2.2.2.2.2
theorem dLb_69 : (decode cL_law 1048 = .ok (.iadd, 1)) ∧ (decode cL_law 1049 = .ok (.iaload, 1)) ∧ (decode cL_law 1050 = .ok (.aload_n 0, 1)) ∧ (decode cL_law 1051 = .ok (.iload_n 3, 1)) ∧ (decode cL_law 1052 = .ok (.iconst 3, 1)) ∧ (decode cL_law 1053 = .ok (.iadd, 1)) ∧ (decode cL_law 1054 = .ok (.iaload, 1)) ∧ (decode cL_law 1055 = .ok (.invokevirtual 117, 3)) ∧ (decode cL_law 1058 = .ok (.pop, 1)) ∧ (decode cL_law 1059 = .ok (.goto 745, 3)) := by decide +kernel
theorem dL_law_1048 : decode cL_law 1048 = .ok (.iadd, 1) := dLb_69.1
theorem dL_law_1049 : decode cL_law 1049 = .ok (.iaload, 1) := dLb_69.2.1
theorem dL_law_1050 : decode cL_law 1050 = .ok (.aload_n 0, 1) := dLb_69.2.2.1
theorem dL_law_1051 : decode cL_law 1051 = .ok (.iload_n 3, 1) := dLb_69.2.2.2.1
theorem dL_law_1052 : decode cL_law 1052 = .ok (.iconst 3, 1) := dLb_69.2.2.2.2.1
theorem dL_law_1053 : decode cL_law 1053 = .ok (.iadd, 1) := dLb_69.2.2.2.2.2.1
theorem dL_law_1054 : decode cL_law 1054 = .ok (.iaload, 1) := dLb_69.2.2.2.2.2.2.1
theorem dL_law_1055 : decode cL_law 1055 = .ok (.invokevirtual 117, 3) := dLb_69.2.2.2.2.2.2.2.1
theorem dL_law_1058 : decode cL_law 1058 = .ok (.pop, 1) := dLb_69.2.2.2.2.2.2.2.2.1
theorem dL_law_1059 : decode cL_law 1059 = .ok (.goto 745, 3) := dLb_69.2.2.2.2.2.2.2.2.2
theorem dLb_70 : (decode cL_law 1062 = .ok (.aload_n 1, 1)) ∧ (decode cL_law 1063 = .ok (.aload_n 0, 1)) ∧ (decode cL_law 1064 = .ok (.iload_n 3, 1)) ∧ (decode cL_law 1065 = .ok (.iconst 1, 1)) ∧ (decode cL_law 1066 = .ok (.iadd, 1)) ∧ (decode cL_law 1067 = .ok (.iaload, 1)) ∧ (decode cL_law 1068 = .ok (.aload_n 0, 1)) ∧ (decode cL_law 1069 = .ok (.iload_n 3, 1)) ∧ (decode cL_law 1070 = .ok (.iconst 2, 1)) ∧ (decode cL_law 1071 = .ok (.iadd, 1)) := by decide +kernel
theorem dL_law_1062 : decode cL_law 1062 = .ok (.aload_n 1, 1) := dLb_70.1
theorem dL_law_1063 : decode cL_law 1063 = .ok (.aload_n 0, 1) := dLb_70.2.1
theorem dL_law_1064 : decode cL_law 1064 = .ok (.iload_n 3, 1) := dLb_70.2.2.1
theorem dL_law_1065 : decode cL_law 1065 = .ok (.iconst 1, 1) := dLb_70.2.2.2.1
theorem dL_law_1066 : decode cL_law 1066 = .ok (.iadd, 1) := dLb_70.2.2.2.2.1
theorem dL_law_1067 : decode cL_law 1067 = .ok (.iaload, 1) := dLb_70.2.2.2.2.2.1
theorem dL_law_1068 : decode cL_law 1068 = .ok (.aload_n 0, 1) := dLb_70.2.2.2.2.2.2.1
theorem dL_law_1069 : decode cL_law 1069 = .ok (.iload_n 3, 1) := dLb_70.2.2.2.2.2.2.2.1
theorem dL_law_1070 : decode cL_law 1070 = .ok (.iconst 2, 1) := dLb_70.2.2.2.2.2.2.2.2.1
theorem dL_law_1071 : decode cL_law 1071 = .ok (.iadd, 1) := dLb_70.2.2.2.2.2.2.2.2.2
theorem dLb_71 : (decode cL_law 1072 = .ok (.iaload, 1)) ∧ (decode cL_law 1073 = .ok (.aload_n 0, 1)) ∧ (decode cL_law 1074 = .ok (.iload_n 3, 1)) ∧ (decode cL_law 1075 = .ok (.iconst 3, 1)) ∧ (decode cL_law 1076 = .ok (.iadd, 1)) ∧ (decode cL_law 1077 = .ok (.iaload, 1)) ∧ (decode cL_law 1078 = .ok (.invokevirtual 118, 3)) ∧ (decode cL_law 1081 = .ok (.pop, 1)) ∧ (decode cL_law 1082 = .ok (.aload_n 2, 1)) ∧ (decode cL_law 1083 = .ok (.aload_n 0, 1)) := by decide +kernel
theorem dL_law_1072 : decode cL_law 1072 = .ok (.iaload, 1) := dLb_71.1
theorem dL_law_1073 : decode cL_law 1073 = .ok (.aload_n 0, 1) := dLb_71.2.1
theorem dL_law_1074 : decode cL_law 1074 = .ok (.iload_n 3, 1) := dLb_71.2.2.1
theorem dL_law_1075 : decode cL_law 1075 = .ok (.iconst 3, 1) := dLb_71.2.2.2.1
theorem dL_law_1076 : decode cL_law 1076 = .ok (.iadd, 1) := dLb_71.2.2.2.2.1
theorem dL_law_1077 : decode cL_law 1077 = .ok (.iaload, 1) := dLb_71.2.2.2.2.2.1
theorem dL_law_1078 : decode cL_law 1078 = .ok (.invokevirtual 118, 3) := dLb_71.2.2.2.2.2.2.1
theorem dL_law_1081 : decode cL_law 1081 = .ok (.pop, 1) := dLb_71.2.2.2.2.2.2.2.1
theorem dL_law_1082 : decode cL_law 1082 = .ok (.aload_n 2, 1) := dLb_71.2.2.2.2.2.2.2.2.1
theorem dL_law_1083 : decode cL_law 1083 = .ok (.aload_n 0, 1) := dLb_71.2.2.2.2.2.2.2.2.2
theorem dLb_72 : (decode cL_law 1084 = .ok (.iload_n 3, 1)) ∧ (decode cL_law 1085 = .ok (.iconst 1, 1)) ∧ (decode cL_law 1086 = .ok (.iadd, 1)) ∧ (decode cL_law 1087 = .ok (.iaload, 1)) ∧ (decode cL_law 1088 = .ok (.aload_n 0, 1)) ∧ (decode cL_law 1089 = .ok (.iload_n 3, 1)) ∧ (decode cL_law 1090 = .ok (.iconst 2, 1)) ∧ (decode cL_law 1091 = .ok (.iadd, 1)) ∧ (decode cL_law 1092 = .ok (.iaload, 1)) ∧ (decode cL_law 1093 = .ok (.aload_n 0, 1)) := by decide +kernel
theorem dL_law_1084 : decode cL_law 1084 = .ok (.iload_n 3, 1) := dLb_72.1
theorem dL_law_1085 : decode cL_law 1085 = .ok (.iconst 1, 1) := dLb_72.2.1
theorem dL_law_1086 : decode cL_law 1086 = .ok (.iadd, 1) := dLb_72.2.2.1
theorem dL_law_1087 : decode cL_law 1087 = .ok (.iaload, 1) := dLb_72.2.2.2.1
theorem dL_law_1088 : decode cL_law 1088 = .ok (.aload_n 0, 1) := dLb_72.2.2.2.2.1
theorem dL_law_1089 : decode cL_law 1089 = .ok (.iload_n 3, 1) := dLb_72.2.2.2.2.2.1
theorem dL_law_1090 : decode cL_law 1090 = .ok (.iconst 2, 1) := dLb_72.2.2.2.2.2.2.1
theorem dL_law_1091 : decode cL_law 1091 = .ok (.iadd, 1) := dLb_72.2.2.2.2.2.2.2.1
theorem dL_law_1092 : decode cL_law 1092 = .ok (.iaload, 1) := dLb_72.2.2.2.2.2.2.2.2.1
theorem dL_law_1093 : decode cL_law 1093 = .ok (.aload_n 0, 1) := dLb_72.2.2.2.2.2.2.2.2.2
theorem dLb_73 : (decode cL_law 1094 = .ok (.iload_n 3, 1)) ∧ (decode cL_law 1095 = .ok (.iconst 3, 1)) ∧ (decode cL_law 1096 = .ok (.iadd, 1)) ∧ (decode cL_law 1097 = .ok (.iaload, 1)) ∧ (decode cL_law 1098 = .ok (.invokevirtual 121, 3)) ∧ (decode cL_law 1101 = .ok (.pop, 1)) ∧ (decode cL_law 1102 = .ok (.goto 702, 3)) ∧ (decode cL_law 1105 = .ok (.aload_n 1, 1)) ∧ (decode cL_law 1106 = .ok (.aload_n 0, 1)) ∧ (decode cL_law 1107 = .ok (.iload_n 3, 1)) := by decide +kernel
theorem dL_law_1094 : decode cL_law 1094 = .ok (.iload_n 3, 1) := dLb_73.1
theorem dL_law_1095 : decode cL_law 1095 = .ok (.iconst 3, 1) := dLb_73.2.1
theorem dL_law_1096 : decode cL_law 1096 = .ok (.iadd, 1) := dLb_73.2.2.1
theorem dL_law_1097 : decode cL_law 1097 = .ok (.iaload, 1) := dLb_73.2.2.2.1
theorem dL_law_1098 : decode cL_law 1098 = .ok (.invokevirtual 121, 3) := dLb_73.2.2.2.2.1
theorem dL_law_1101 : decode cL_law 1101 = .ok (.pop, 1) := dLb_73.2.2.2.2.2.1
theorem dL_law_1102 : decode cL_law 1102 = .ok (.goto 702, 3) := dLb_73.2.2.2.2.2.2.1
theorem dL_law_1105 : decode cL_law 1105 = .ok (.aload_n 1, 1) := dLb_73.2.2.2.2.2.2.2.1
theorem dL_law_1106 : decode cL_law 1106 = .ok (.aload_n 0, 1) := dLb_73.2.2.2.2.2.2.2.2.1
theorem dL_law_1107 : decode cL_law 1107 = .ok (.iload_n 3, 1) := dLb_73.2.2.2.2.2.2.2.2.2
theorem dLb_74 : (decode cL_law 1108 = .ok (.iconst 1, 1)) ∧ (decode cL_law 1109 = .ok (.iadd, 1)) ∧ (decode cL_law 1110 = .ok (.iaload, 1)) ∧ (decode cL_law 1111 = .ok (.aload_n 0, 1)) ∧ (decode cL_law 1112 = .ok (.iload_n 3, 1)) ∧ (decode cL_law 1113 = .ok (.iconst 2, 1)) ∧ (decode cL_law 1114 = .ok (.iadd, 1)) ∧ (decode cL_law 1115 = .ok (.iaload, 1)) ∧ (decode cL_law 1116 = .ok (.invokevirtual 122, 3)) ∧ (decode cL_law 1119 = .ok (.pop, 1)) := by decide +kernel
theorem dL_law_1108 : decode cL_law 1108 = .ok (.iconst 1, 1) := dLb_74.1
theorem dL_law_1109 : decode cL_law 1109 = .ok (.iadd, 1) := dLb_74.2.1
theorem dL_law_1110 : decode cL_law 1110 = .ok (.iaload, 1) := dLb_74.2.2.1
theorem dL_law_1111 : decode cL_law 1111 = .ok (.aload_n 0, 1) := dLb_74.2.2.2.1
theorem dL_law_1112 : decode cL_law 1112 = .ok (.iload_n 3, 1) := dLb_74.2.2.2.2.1
theorem dL_law_1113 : decode cL_law 1113 = .ok (.iconst 2, 1) := dLb_74.2.2.2.2.2.1
theorem dL_law_1114 : decode cL_law 1114 = .ok (.iadd, 1) := dLb_74.2.2.2.2.2.2.1
theorem dL_law_1115 : decode cL_law 1115 = .ok (.iaload, 1) := dLb_74.2.2.2.2.2.2.2.1
theorem dL_law_1116 : decode cL_law 1116 = .ok (.invokevirtual 122, 3) := dLb_74.2.2.2.2.2.2.2.2.1
theorem dL_law_1119 : decode cL_law 1119 = .ok (.pop, 1) := dLb_74.2.2.2.2.2.2.2.2.2
theorem dLb_75 : (decode cL_law 1120 = .ok (.aload_n 2, 1)) ∧ (decode cL_law 1121 = .ok (.aload_n 0, 1)) ∧ (decode cL_law 1122 = .ok (.iload_n 3, 1)) ∧ (decode cL_law 1123 = .ok (.iconst 1, 1)) ∧ (decode cL_law 1124 = .ok (.iadd, 1)) ∧ (decode cL_law 1125 = .ok (.iaload, 1)) ∧ (decode cL_law 1126 = .ok (.aload_n 0, 1)) ∧ (decode cL_law 1127 = .ok (.iload_n 3, 1)) ∧ (decode cL_law 1128 = .ok (.iconst 2, 1)) ∧ (decode cL_law 1129 = .ok (.iadd, 1)) := by decide +kernel
theorem dL_law_1120 : decode cL_law 1120 = .ok (.aload_n 2, 1) := dLb_75.1
theorem dL_law_1121 : decode cL_law 1121 = .ok (.aload_n 0, 1) := dLb_75.2.1
theorem dL_law_1122 : decode cL_law 1122 = .ok (.iload_n 3, 1) := dLb_75.2.2.1
theorem dL_law_1123 : decode cL_law 1123 = .ok (.iconst 1, 1) := dLb_75.2.2.2.1
theorem dL_law_1124 : decode cL_law 1124 = .ok (.iadd, 1) := dLb_75.2.2.2.2.1
theorem dL_law_1125 : decode cL_law 1125 = .ok (.iaload, 1) := dLb_75.2.2.2.2.2.1
theorem dL_law_1126 : decode cL_law 1126 = .ok (.aload_n 0, 1) := dLb_75.2.2.2.2.2.2.1
theorem dL_law_1127 : decode cL_law 1127 = .ok (.iload_n 3, 1) := dLb_75.2.2.2.2.2.2.2.1
theorem dL_law_1128 : decode cL_law 1128 = .ok (.iconst 2, 1) := dLb_75.2.2.2.2.2.2.2.2.1
theorem dL_law_1129 : decode cL_law 1129 = .ok (.iadd, 1) := dLb_75.2.2.2.2.2.2.2.2.2
theorem dLb_76 : (decode cL_law 1130 = .ok (.iaload, 1)) ∧ (decode cL_law 1131 = .ok (.invokevirtual 125, 3)) ∧ (decode cL_law 1134 = .ok (.pop, 1)) ∧ (decode cL_law 1135 = .ok (.goto 669, 3)) ∧ (decode cL_law 1138 = .ok (.aload_n 1, 1)) ∧ (decode cL_law 1139 = .ok (.aload_n 0, 1)) ∧ (decode cL_law 1140 = .ok (.iload_n 3, 1)) ∧ (decode cL_law 1141 = .ok (.iconst 1, 1)) ∧ (decode cL_law 1142 = .ok (.iadd, 1)) ∧ (decode cL_law 1143 = .ok (.iaload, 1)) := by decide +kernel
theorem dL_law_1130 : decode cL_law 1130 = .ok (.iaload, 1) := dLb_76.1
theorem dL_law_1131 : decode cL_law 1131 = .ok (.invokevirtual 125, 3) := dLb_76.2.1
theorem dL_law_1134 : decode cL_law 1134 = .ok (.pop, 1) := dLb_76.2.2.1
theorem dL_law_1135 : decode cL_law 1135 = .ok (.goto 669, 3) := dLb_76.2.2.2.1
theorem dL_law_1138 : decode cL_law 1138 = .ok (.aload_n 1, 1) := dLb_76.2.2.2.2.1
theorem dL_law_1139 : decode cL_law 1139 = .ok (.aload_n 0, 1) := dLb_76.2.2.2.2.2.1
theorem dL_law_1140 : decode cL_law 1140 = .ok (.iload_n 3, 1) := dLb_76.2.2.2.2.2.2.1
theorem dL_law_1141 : decode cL_law 1141 = .ok (.iconst 1, 1) := dLb_76.2.2.2.2.2.2.2.1
theorem dL_law_1142 : decode cL_law 1142 = .ok (.iadd, 1) := dLb_76.2.2.2.2.2.2.2.2.1
theorem dL_law_1143 : decode cL_law 1143 = .ok (.iaload, 1) := dLb_76.2.2.2.2.2.2.2.2.2
theorem dLb_77 : (decode cL_law 1144 = .ok (.invokevirtual 126, 3)) ∧ (decode cL_law 1147 = .ok (.pop, 1)) ∧ (decode cL_law 1148 = .ok (.aload_n 2, 1)) ∧ (decode cL_law 1149 = .ok (.aload_n 0, 1)) ∧ (decode cL_law 1150 = .ok (.iload_n 3, 1)) ∧ (decode cL_law 1151 = .ok (.iconst 1, 1)) ∧ (decode cL_law 1152 = .ok (.iadd, 1)) ∧ (decode cL_law 1153 = .ok (.iaload, 1)) ∧ (decode cL_law 1154 = .ok (.invokevirtual 129, 3)) ∧ (decode cL_law 1157 = .ok (.pop, 1)) := by decide +kernel
theorem dL_law_1144 : decode cL_law 1144 = .ok (.invokevirtual 126, 3) := dLb_77.1
theorem dL_law_1147 : decode cL_law 1147 = .ok (.pop, 1) := dLb_77.2.1
theorem dL_law_1148 : decode cL_law 1148 = .ok (.aload_n 2, 1) := dLb_77.2.2.1
theorem dL_law_1149 : decode cL_law 1149 = .ok (.aload_n 0, 1) := dLb_77.2.2.2.1
theorem dL_law_1150 : decode cL_law 1150 = .ok (.iload_n 3, 1) := dLb_77.2.2.2.2.1
theorem dL_law_1151 : decode cL_law 1151 = .ok (.iconst 1, 1) := dLb_77.2.2.2.2.2.1
theorem dL_law_1152 : decode cL_law 1152 = .ok (.iadd, 1) := dLb_77.2.2.2.2.2.2.1
theorem dL_law_1153 : decode cL_law 1153 = .ok (.iaload, 1) := dLb_77.2.2.2.2.2.2.2.1
theorem dL_law_1154 : decode cL_law 1154 = .ok (.invokevirtual 129, 3) := dLb_77.2.2.2.2.2.2.2.2.1
theorem dL_law_1157 : decode cL_law 1157 = .ok (.pop, 1) := dLb_77.2.2.2.2.2.2.2.2.2
theorem dLb_78 : (decode cL_law 1158 = .ok (.goto 646, 3)) ∧ (decode cL_law 1161 = .ok (.aload_n 1, 1)) ∧ (decode cL_law 1162 = .ok (.aload_n 0, 1)) ∧ (decode cL_law 1163 = .ok (.iload_n 3, 1)) ∧ (decode cL_law 1164 = .ok (.iconst 1, 1)) ∧ (decode cL_law 1165 = .ok (.iadd, 1)) ∧ (decode cL_law 1166 = .ok (.iaload, 1)) ∧ (decode cL_law 1167 = .ok (.invokevirtual 130, 3)) ∧ (decode cL_law 1170 = .ok (.pop, 1)) ∧ (decode cL_law 1171 = .ok (.aload_n 2, 1)) := by decide +kernel
theorem dL_law_1158 : decode cL_law 1158 = .ok (.goto 646, 3) := dLb_78.1
theorem dL_law_1161 : decode cL_law 1161 = .ok (.aload_n 1, 1) := dLb_78.2.1
theorem dL_law_1162 : decode cL_law 1162 = .ok (.aload_n 0, 1) := dLb_78.2.2.1
theorem dL_law_1163 : decode cL_law 1163 = .ok (.iload_n 3, 1) := dLb_78.2.2.2.1
theorem dL_law_1164 : decode cL_law 1164 = .ok (.iconst 1, 1) := dLb_78.2.2.2.2.1
theorem dL_law_1165 : decode cL_law 1165 = .ok (.iadd, 1) := dLb_78.2.2.2.2.2.1
theorem dL_law_1166 : decode cL_law 1166 = .ok (.iaload, 1) := dLb_78.2.2.2.2.2.2.1
theorem dL_law_1167 : decode cL_law 1167 = .ok (.invokevirtual 130, 3) := dLb_78.2.2.2.2.2.2.2.1
theorem dL_law_1170 : decode cL_law 1170 = .ok (.pop, 1) := dLb_78.2.2.2.2.2.2.2.2.1
theorem dL_law_1171 : decode cL_law 1171 = .ok (.aload_n 2, 1) := dLb_78.2.2.2.2.2.2.2.2.2
theorem dLb_79 : (decode cL_law 1172 = .ok (.aload_n 0, 1)) ∧ (decode cL_law 1173 = .ok (.iload_n 3, 1)) ∧ (decode cL_law 1174 = .ok (.iconst 1, 1)) ∧ (decode cL_law 1175 = .ok (.iadd, 1)) ∧ (decode cL_law 1176 = .ok (.iaload, 1)) ∧ (decode cL_law 1177 = .ok (.invokevirtual 133, 3)) ∧ (decode cL_law 1180 = .ok (.pop, 1)) ∧ (decode cL_law 1181 = .ok (.goto 623, 3)) ∧ (decode cL_law 1184 = .ok (.aload_n 1, 1)) ∧ (decode cL_law 1185 = .ok (.aload_n 0, 1)) := by decide +kernel
theorem dL_law_1172 : decode cL_law 1172 = .ok (.aload_n 0, 1) := dLb_79.1
theorem dL_law_1173 : decode cL_law 1173 = .ok (.iload_n 3, 1) := dLb_79.2.1
theorem dL_law_1174 : decode cL_law 1174 = .ok (.iconst 1, 1) := dLb_79.2.2.1
theorem dL_law_1175 : decode cL_law 1175 = .ok (.iadd, 1) := dLb_79.2.2.2.1
theorem dL_law_1176 : decode cL_law 1176 = .ok (.iaload, 1) := dLb_79.2.2.2.2.1
theorem dL_law_1177 : decode cL_law 1177 = .ok (.invokevirtual 133, 3) := dLb_79.2.2.2.2.2.1
theorem dL_law_1180 : decode cL_law 1180 = .ok (.pop, 1) := dLb_79.2.2.2.2.2.2.1
theorem dL_law_1181 : decode cL_law 1181 = .ok (.goto 623, 3) := dLb_79.2.2.2.2.2.2.2.1
theorem dL_law_1184 : decode cL_law 1184 = .ok (.aload_n 1, 1) := dLb_79.2.2.2.2.2.2.2.2.1
theorem dL_law_1185 : decode cL_law 1185 = .ok (.aload_n 0, 1) := dLb_79.2.2.2.2.2.2.2.2.2
theorem dLb_80 : (decode cL_law 1186 = .ok (.iload_n 3, 1)) ∧ (decode cL_law 1187 = .ok (.iconst 1, 1)) ∧ (decode cL_law 1188 = .ok (.iadd, 1)) ∧ (decode cL_law 1189 = .ok (.iaload, 1)) ∧ (decode cL_law 1190 = .ok (.aload_n 0, 1)) ∧ (decode cL_law 1191 = .ok (.iload_n 3, 1)) ∧ (decode cL_law 1192 = .ok (.iconst 2, 1)) ∧ (decode cL_law 1193 = .ok (.iadd, 1)) ∧ (decode cL_law 1194 = .ok (.iaload, 1)) ∧ (decode cL_law 1195 = .ok (.aload_n 0, 1)) := by decide +kernel
theorem dL_law_1186 : decode cL_law 1186 = .ok (.iload_n 3, 1) := dLb_80.1
theorem dL_law_1187 : decode cL_law 1187 = .ok (.iconst 1, 1) := dLb_80.2.1
theorem dL_law_1188 : decode cL_law 1188 = .ok (.iadd, 1) := dLb_80.2.2.1
theorem dL_law_1189 : decode cL_law 1189 = .ok (.iaload, 1) := dLb_80.2.2.2.1
theorem dL_law_1190 : decode cL_law 1190 = .ok (.aload_n 0, 1) := dLb_80.2.2.2.2.1
theorem dL_law_1191 : decode cL_law 1191 = .ok (.iload_n 3, 1) := dLb_80.2.2.2.2.2.1
theorem dL_law_1192 : decode cL_law 1192 = .ok (.iconst 2, 1) := dLb_80.2.2.2.2.2.2.1
theorem dL_law_1193 : decode cL_law 1193 = .ok (.iadd, 1) := dLb_80.2.2.2.2.2.2.2.1
theorem dL_law_1194 : decode cL_law 1194 = .ok (.iaload, 1) := dLb_80.2.2.2.2.2.2.2.2.1
theorem dL_law_1195 : decode cL_law 1195 = .ok (.aload_n 0, 1) := dLb_80.2.2.2.2.2.2.2.2.2
theorem dLb_81 : (decode cL_law 1196 = .ok (.iload_n 3, 1)) ∧ (decode cL_law 1197 = .ok (.iconst 3, 1)) ∧ (decode cL_law 1198 = .ok (.iadd, 1)) ∧ (decode cL_law 1199 = .ok (.iaload, 1)) ∧ (decode cL_law 1200 = .ok (.invokevirtual 134, 3)) ∧ (decode cL_law 1203 = .ok (.pop, 1)) ∧ (decode cL_law 1204 = .ok (.aload_n 2, 1)) ∧ (decode cL_law 1205 = .ok (.aload_n 0, 1)) ∧ (decode cL_law 1206 = .ok (.iload_n 3, 1)) ∧ (decode cL_law 1207 = .ok (.iconst 1, 1)) := by decide +kernel
theorem dL_law_1196 : decode cL_law 1196 = .ok (.iload_n 3, 1) := dLb_81.1
theorem dL_law_1197 : decode cL_law 1197 = .ok (.iconst 3, 1) := dLb_81.2.1
theorem dL_law_1198 : decode cL_law 1198 = .ok (.iadd, 1) := dLb_81.2.2.1
theorem dL_law_1199 : decode cL_law 1199 = .ok (.iaload, 1) := dLb_81.2.2.2.1
theorem dL_law_1200 : decode cL_law 1200 = .ok (.invokevirtual 134, 3) := dLb_81.2.2.2.2.1
theorem dL_law_1203 : decode cL_law 1203 = .ok (.pop, 1) := dLb_81.2.2.2.2.2.1
theorem dL_law_1204 : decode cL_law 1204 = .ok (.aload_n 2, 1) := dLb_81.2.2.2.2.2.2.1
theorem dL_law_1205 : decode cL_law 1205 = .ok (.aload_n 0, 1) := dLb_81.2.2.2.2.2.2.2.1
theorem dL_law_1206 : decode cL_law 1206 = .ok (.iload_n 3, 1) := dLb_81.2.2.2.2.2.2.2.2.1
theorem dL_law_1207 : decode cL_law 1207 = .ok (.iconst 1, 1) := dLb_81.2.2.2.2.2.2.2.2.2
theorem dLb_82 : (decode cL_law 1208 = .ok (.iadd, 1)) ∧ (decode cL_law 1209 = .ok (.iaload, 1)) ∧ (decode cL_law 1210 = .ok (.aload_n 0, 1)) ∧ (decode cL_law 1211 = .ok (.iload_n 3, 1)) ∧ (decode cL_law 1212 = .ok (.iconst 2, 1)) ∧ (decode cL_law 1213 = .ok (.iadd, 1)) ∧ (decode cL_law 1214 = .ok (.iaload, 1)) ∧ (decode cL_law 1215 = .ok (.aload_n 0, 1)) ∧ (decode cL_law 1216 = .ok (.iload_n 3, 1)) ∧ (decode cL_law 1217 = .ok (.iconst 3, 1)) := by decide +kernel
theorem dL_law_1208 : decode cL_law 1208 = .ok (.iadd, 1) := dLb_82.1
theorem dL_law_1209 : decode cL_law 1209 = .ok (.iaload, 1) := dLb_82.2.1
theorem dL_law_1210 : decode cL_law 1210 = .ok (.aload_n 0, 1) := dLb_82.2.2.1
theorem dL_law_1211 : decode cL_law 1211 = .ok (.iload_n 3, 1) := dLb_82.2.2.2.1
theorem dL_law_1212 : decode cL_law 1212 = .ok (.iconst 2, 1) := dLb_82.2.2.2.2.1
theorem dL_law_1213 : decode cL_law 1213 = .ok (.iadd, 1) := dLb_82.2.2.2.2.2.1
theorem dL_law_1214 : decode cL_law 1214 = .ok (.iaload, 1) := dLb_82.2.2.2.2.2.2.1
theorem dL_law_1215 : decode cL_law 1215 = .ok (.aload_n 0, 1) := dLb_82.2.2.2.2.2.2.2.1
theorem dL_law_1216 : decode cL_law 1216 = .ok (.iload_n 3, 1) := dLb_82.2.2.2.2.2.2.2.2.1
theorem dL_law_1217 : decode cL_law 1217 = .ok (.iconst 3, 1) := dLb_82.2.2.2.2.2.2.2.2.2
theorem dLb_83 : (decode cL_law 1218 = .ok (.iadd, 1)) ∧ (decode cL_law 1219 = .ok (.iaload, 1)) ∧ (decode cL_law 1220 = .ok (.invokevirtual 137, 3)) ∧ (decode cL_law 1223 = .ok (.pop, 1)) ∧ (decode cL_law 1224 = .ok (.goto 580, 3)) ∧ (decode cL_law 1227 = .ok (.aload_n 1, 1)) ∧ (decode cL_law 1228 = .ok (.aload_n 0, 1)) ∧ (decode cL_law 1229 = .ok (.iload_n 3, 1)) ∧ (decode cL_law 1230 = .ok (.iconst 1, 1)) ∧ (decode cL_law 1231 = .ok (.iadd, 1)) := by decide +kernel
theorem dL_law_1218 : decode cL_law 1218 = .ok (.iadd, 1) := dLb_83.1
theorem dL_law_1219 : decode cL_law 1219 = .ok (.iaload, 1) := dLb_83.2.1
theorem dL_law_1220 : decode cL_law 1220 = .ok (.invokevirtual 137, 3) := dLb_83.2.2.1
theorem dL_law_1223 : decode cL_law 1223 = .ok (.pop, 1) := dLb_83.2.2.2.1
theorem dL_law_1224 : decode cL_law 1224 = .ok (.goto 580, 3) := dLb_83.2.2.2.2.1
theorem dL_law_1227 : decode cL_law 1227 = .ok (.aload_n 1, 1) := dLb_83.2.2.2.2.2.1
theorem dL_law_1228 : decode cL_law 1228 = .ok (.aload_n 0, 1) := dLb_83.2.2.2.2.2.2.1
theorem dL_law_1229 : decode cL_law 1229 = .ok (.iload_n 3, 1) := dLb_83.2.2.2.2.2.2.2.1
theorem dL_law_1230 : decode cL_law 1230 = .ok (.iconst 1, 1) := dLb_83.2.2.2.2.2.2.2.2.1
theorem dL_law_1231 : decode cL_law 1231 = .ok (.iadd, 1) := dLb_83.2.2.2.2.2.2.2.2.2
theorem dLb_84 : (decode cL_law 1232 = .ok (.iaload, 1)) ∧ (decode cL_law 1233 = .ok (.invokevirtual 138, 3)) ∧ (decode cL_law 1236 = .ok (.pop, 1)) ∧ (decode cL_law 1237 = .ok (.aload_n 2, 1)) ∧ (decode cL_law 1238 = .ok (.aload_n 0, 1)) ∧ (decode cL_law 1239 = .ok (.iload_n 3, 1)) ∧ (decode cL_law 1240 = .ok (.iconst 1, 1)) ∧ (decode cL_law 1241 = .ok (.iadd, 1)) ∧ (decode cL_law 1242 = .ok (.iaload, 1)) ∧ (decode cL_law 1243 = .ok (.invokevirtual 141, 3)) := by decide +kernel
theorem dL_law_1232 : decode cL_law 1232 = .ok (.iaload, 1) := dLb_84.1
theorem dL_law_1233 : decode cL_law 1233 = .ok (.invokevirtual 138, 3) := dLb_84.2.1
theorem dL_law_1236 : decode cL_law 1236 = .ok (.pop, 1) := dLb_84.2.2.1
theorem dL_law_1237 : decode cL_law 1237 = .ok (.aload_n 2, 1) := dLb_84.2.2.2.1
theorem dL_law_1238 : decode cL_law 1238 = .ok (.aload_n 0, 1) := dLb_84.2.2.2.2.1
theorem dL_law_1239 : decode cL_law 1239 = .ok (.iload_n 3, 1) := dLb_84.2.2.2.2.2.1
theorem dL_law_1240 : decode cL_law 1240 = .ok (.iconst 1, 1) := dLb_84.2.2.2.2.2.2.1
theorem dL_law_1241 : decode cL_law 1241 = .ok (.iadd, 1) := dLb_84.2.2.2.2.2.2.2.1
theorem dL_law_1242 : decode cL_law 1242 = .ok (.iaload, 1) := dLb_84.2.2.2.2.2.2.2.2.1
theorem dL_law_1243 : decode cL_law 1243 = .ok (.invokevirtual 141, 3) := dLb_84.2.2.2.2.2.2.2.2.2
theorem dLb_85 : (decode cL_law 1246 = .ok (.pop, 1)) ∧ (decode cL_law 1247 = .ok (.goto 557, 3)) ∧ (decode cL_law 1250 = .ok (.aload_n 1, 1)) ∧ (decode cL_law 1251 = .ok (.aload_n 0, 1)) ∧ (decode cL_law 1252 = .ok (.iload_n 3, 1)) ∧ (decode cL_law 1253 = .ok (.iconst 1, 1)) ∧ (decode cL_law 1254 = .ok (.iadd, 1)) ∧ (decode cL_law 1255 = .ok (.iaload, 1)) ∧ (decode cL_law 1256 = .ok (.aload_n 0, 1)) ∧ (decode cL_law 1257 = .ok (.iload_n 3, 1)) := by decide +kernel
theorem dL_law_1246 : decode cL_law 1246 = .ok (.pop, 1) := dLb_85.1
theorem dL_law_1247 : decode cL_law 1247 = .ok (.goto 557, 3) := dLb_85.2.1
theorem dL_law_1250 : decode cL_law 1250 = .ok (.aload_n 1, 1) := dLb_85.2.2.1
theorem dL_law_1251 : decode cL_law 1251 = .ok (.aload_n 0, 1) := dLb_85.2.2.2.1
theorem dL_law_1252 : decode cL_law 1252 = .ok (.iload_n 3, 1) := dLb_85.2.2.2.2.1
theorem dL_law_1253 : decode cL_law 1253 = .ok (.iconst 1, 1) := dLb_85.2.2.2.2.2.1
theorem dL_law_1254 : decode cL_law 1254 = .ok (.iadd, 1) := dLb_85.2.2.2.2.2.2.1
theorem dL_law_1255 : decode cL_law 1255 = .ok (.iaload, 1) := dLb_85.2.2.2.2.2.2.2.1
theorem dL_law_1256 : decode cL_law 1256 = .ok (.aload_n 0, 1) := dLb_85.2.2.2.2.2.2.2.2.1
theorem dL_law_1257 : decode cL_law 1257 = .ok (.iload_n 3, 1) := dLb_85.2.2.2.2.2.2.2.2.2
theorem dLb_86 : (decode cL_law 1258 = .ok (.iconst 2, 1)) ∧ (decode cL_law 1259 = .ok (.iadd, 1)) ∧ (decode cL_law 1260 = .ok (.iaload, 1)) ∧ (decode cL_law 1261 = .ok (.invokevirtual 142, 3)) ∧ (decode cL_law 1264 = .ok (.pop, 1)) ∧ (decode cL_law 1265 = .ok (.aload_n 2, 1)) ∧ (decode cL_law 1266 = .ok (.aload_n 0, 1)) ∧ (decode cL_law 1267 = .ok (.iload_n 3, 1)) ∧ (decode cL_law 1268 = .ok (.iconst 1, 1)) ∧ (decode cL_law 1269 = .ok (.iadd, 1)) := by decide +kernel
theorem dL_law_1258 : decode cL_law 1258 = .ok (.iconst 2, 1) := dLb_86.1
theorem dL_law_1259 : decode cL_law 1259 = .ok (.iadd, 1) := dLb_86.2.1
theorem dL_law_1260 : decode cL_law 1260 = .ok (.iaload, 1) := dLb_86.2.2.1
theorem dL_law_1261 : decode cL_law 1261 = .ok (.invokevirtual 142, 3) := dLb_86.2.2.2.1
theorem dL_law_1264 : decode cL_law 1264 = .ok (.pop, 1) := dLb_86.2.2.2.2.1
theorem dL_law_1265 : decode cL_law 1265 = .ok (.aload_n 2, 1) := dLb_86.2.2.2.2.2.1
theorem dL_law_1266 : decode cL_law 1266 = .ok (.aload_n 0, 1) := dLb_86.2.2.2.2.2.2.1
theorem dL_law_1267 : decode cL_law 1267 = .ok (.iload_n 3, 1) := dLb_86.2.2.2.2.2.2.2.1
theorem dL_law_1268 : decode cL_law 1268 = .ok (.iconst 1, 1) := dLb_86.2.2.2.2.2.2.2.2.1
theorem dL_law_1269 : decode cL_law 1269 = .ok (.iadd, 1) := dLb_86.2.2.2.2.2.2.2.2.2
theorem dLb_87 : (decode cL_law 1270 = .ok (.iaload, 1)) ∧ (decode cL_law 1271 = .ok (.aload_n 0, 1)) ∧ (decode cL_law 1272 = .ok (.iload_n 3, 1)) ∧ (decode cL_law 1273 = .ok (.iconst 2, 1)) ∧ (decode cL_law 1274 = .ok (.iadd, 1)) ∧ (decode cL_law 1275 = .ok (.iaload, 1)) ∧ (decode cL_law 1276 = .ok (.invokevirtual 145, 3)) ∧ (decode cL_law 1279 = .ok (.pop, 1)) ∧ (decode cL_law 1280 = .ok (.goto 524, 3)) ∧ (decode cL_law 1283 = .ok (.aload_n 1, 1)) := by decide +kernel
theorem dL_law_1270 : decode cL_law 1270 = .ok (.iaload, 1) := dLb_87.1
theorem dL_law_1271 : decode cL_law 1271 = .ok (.aload_n 0, 1) := dLb_87.2.1
theorem dL_law_1272 : decode cL_law 1272 = .ok (.iload_n 3, 1) := dLb_87.2.2.1
theorem dL_law_1273 : decode cL_law 1273 = .ok (.iconst 2, 1) := dLb_87.2.2.2.1
theorem dL_law_1274 : decode cL_law 1274 = .ok (.iadd, 1) := dLb_87.2.2.2.2.1
theorem dL_law_1275 : decode cL_law 1275 = .ok (.iaload, 1) := dLb_87.2.2.2.2.2.1
theorem dL_law_1276 : decode cL_law 1276 = .ok (.invokevirtual 145, 3) := dLb_87.2.2.2.2.2.2.1
theorem dL_law_1279 : decode cL_law 1279 = .ok (.pop, 1) := dLb_87.2.2.2.2.2.2.2.1
theorem dL_law_1280 : decode cL_law 1280 = .ok (.goto 524, 3) := dLb_87.2.2.2.2.2.2.2.2.1
theorem dL_law_1283 : decode cL_law 1283 = .ok (.aload_n 1, 1) := dLb_87.2.2.2.2.2.2.2.2.2
theorem dLb_88 : (decode cL_law 1284 = .ok (.aload_n 0, 1)) ∧ (decode cL_law 1285 = .ok (.iload_n 3, 1)) ∧ (decode cL_law 1286 = .ok (.iconst 1, 1)) ∧ (decode cL_law 1287 = .ok (.iadd, 1)) ∧ (decode cL_law 1288 = .ok (.iaload, 1)) ∧ (decode cL_law 1289 = .ok (.invokevirtual 146, 3)) ∧ (decode cL_law 1292 = .ok (.pop, 1)) ∧ (decode cL_law 1293 = .ok (.aload_n 2, 1)) ∧ (decode cL_law 1294 = .ok (.aload_n 0, 1)) ∧ (decode cL_law 1295 = .ok (.iload_n 3, 1)) := by decide +kernel
theorem dL_law_1284 : decode cL_law 1284 = .ok (.aload_n 0, 1) := dLb_88.1
theorem dL_law_1285 : decode cL_law 1285 = .ok (.iload_n 3, 1) := dLb_88.2.1
theorem dL_law_1286 : decode cL_law 1286 = .ok (.iconst 1, 1) := dLb_88.2.2.1
theorem dL_law_1287 : decode cL_law 1287 = .ok (.iadd, 1) := dLb_88.2.2.2.1
theorem dL_law_1288 : decode cL_law 1288 = .ok (.iaload, 1) := dLb_88.2.2.2.2.1
theorem dL_law_1289 : decode cL_law 1289 = .ok (.invokevirtual 146, 3) := dLb_88.2.2.2.2.2.1
theorem dL_law_1292 : decode cL_law 1292 = .ok (.pop, 1) := dLb_88.2.2.2.2.2.2.1
theorem dL_law_1293 : decode cL_law 1293 = .ok (.aload_n 2, 1) := dLb_88.2.2.2.2.2.2.2.1
theorem dL_law_1294 : decode cL_law 1294 = .ok (.aload_n 0, 1) := dLb_88.2.2.2.2.2.2.2.2.1
theorem dL_law_1295 : decode cL_law 1295 = .ok (.iload_n 3, 1) := dLb_88.2.2.2.2.2.2.2.2.2
theorem dLb_89 : (decode cL_law 1296 = .ok (.iconst 1, 1)) ∧ (decode cL_law 1297 = .ok (.iadd, 1)) ∧ (decode cL_law 1298 = .ok (.iaload, 1)) ∧ (decode cL_law 1299 = .ok (.invokevirtual 149, 3)) ∧ (decode cL_law 1302 = .ok (.pop, 1)) ∧ (decode cL_law 1303 = .ok (.goto 501, 3)) ∧ (decode cL_law 1306 = .ok (.aload_n 1, 1)) ∧ (decode cL_law 1307 = .ok (.aload_n 0, 1)) ∧ (decode cL_law 1308 = .ok (.iload_n 3, 1)) ∧ (decode cL_law 1309 = .ok (.iconst 1, 1)) := by decide +kernel
theorem dL_law_1296 : decode cL_law 1296 = .ok (.iconst 1, 1) := dLb_89.1
theorem dL_law_1297 : decode cL_law 1297 = .ok (.iadd, 1) := dLb_89.2.1
theorem dL_law_1298 : decode cL_law 1298 = .ok (.iaload, 1) := dLb_89.2.2.1
theorem dL_law_1299 : decode cL_law 1299 = .ok (.invokevirtual 149, 3) := dLb_89.2.2.2.1
theorem dL_law_1302 : decode cL_law 1302 = .ok (.pop, 1) := dLb_89.2.2.2.2.1
theorem dL_law_1303 : decode cL_law 1303 = .ok (.goto 501, 3) := dLb_89.2.2.2.2.2.1
theorem dL_law_1306 : decode cL_law 1306 = .ok (.aload_n 1, 1) := dLb_89.2.2.2.2.2.2.1
theorem dL_law_1307 : decode cL_law 1307 = .ok (.aload_n 0, 1) := dLb_89.2.2.2.2.2.2.2.1
theorem dL_law_1308 : decode cL_law 1308 = .ok (.iload_n 3, 1) := dLb_89.2.2.2.2.2.2.2.2.1
theorem dL_law_1309 : decode cL_law 1309 = .ok (.iconst 1, 1) := dLb_89.2.2.2.2.2.2.2.2.2
theorem dLb_90 : (decode cL_law 1310 = .ok (.iadd, 1)) ∧ (decode cL_law 1311 = .ok (.iaload, 1)) ∧ (decode cL_law 1312 = .ok (.invokevirtual 150, 3)) ∧ (decode cL_law 1315 = .ok (.pop, 1)) ∧ (decode cL_law 1316 = .ok (.aload_n 2, 1)) ∧ (decode cL_law 1317 = .ok (.aload_n 0, 1)) ∧ (decode cL_law 1318 = .ok (.iload_n 3, 1)) ∧ (decode cL_law 1319 = .ok (.iconst 1, 1)) ∧ (decode cL_law 1320 = .ok (.iadd, 1)) ∧ (decode cL_law 1321 = .ok (.iaload, 1)) := by decide +kernel
theorem dL_law_1310 : decode cL_law 1310 = .ok (.iadd, 1) := dLb_90.1
theorem dL_law_1311 : decode cL_law 1311 = .ok (.iaload, 1) := dLb_90.2.1
theorem dL_law_1312 : decode cL_law 1312 = .ok (.invokevirtual 150, 3) := dLb_90.2.2.1
theorem dL_law_1315 : decode cL_law 1315 = .ok (.pop, 1) := dLb_90.2.2.2.1
theorem dL_law_1316 : decode cL_law 1316 = .ok (.aload_n 2, 1) := dLb_90.2.2.2.2.1
theorem dL_law_1317 : decode cL_law 1317 = .ok (.aload_n 0, 1) := dLb_90.2.2.2.2.2.1
theorem dL_law_1318 : decode cL_law 1318 = .ok (.iload_n 3, 1) := dLb_90.2.2.2.2.2.2.1
theorem dL_law_1319 : decode cL_law 1319 = .ok (.iconst 1, 1) := dLb_90.2.2.2.2.2.2.2.1
theorem dL_law_1320 : decode cL_law 1320 = .ok (.iadd, 1) := dLb_90.2.2.2.2.2.2.2.2.1
theorem dL_law_1321 : decode cL_law 1321 = .ok (.iaload, 1) := dLb_90.2.2.2.2.2.2.2.2.2
theorem dLb_91 : (decode cL_law 1322 = .ok (.invokevirtual 153, 3)) ∧ (decode cL_law 1325 = .ok (.pop, 1)) ∧ (decode cL_law 1326 = .ok (.goto 478, 3)) ∧ (decode cL_law 1329 = .ok (.aload_n 1, 1)) ∧ (decode cL_law 1330 = .ok (.aload_n 0, 1)) ∧ (decode cL_law 1331 = .ok (.iload_n 3, 1)) ∧ (decode cL_law 1332 = .ok (.iconst 1, 1)) ∧ (decode cL_law 1333 = .ok (.iadd, 1)) ∧ (decode cL_law 1334 = .ok (.iaload, 1)) ∧ (decode cL_law 1335 = .ok (.invokevirtual 154, 3)) := by decide +kernel
theorem dL_law_1322 : decode cL_law 1322 = .ok (.invokevirtual 153, 3) := dLb_91.1
theorem dL_law_1325 : decode cL_law 1325 = .ok (.pop, 1) := dLb_91.2.1
theorem dL_law_1326 : decode cL_law 1326 = .ok (.goto 478, 3) := dLb_91.2.2.1
theorem dL_law_1329 : decode cL_law 1329 = .ok (.aload_n 1, 1) := dLb_91.2.2.2.1
theorem dL_law_1330 : decode cL_law 1330 = .ok (.aload_n 0, 1) := dLb_91.2.2.2.2.1
theorem dL_law_1331 : decode cL_law 1331 = .ok (.iload_n 3, 1) := dLb_91.2.2.2.2.2.1
theorem dL_law_1332 : decode cL_law 1332 = .ok (.iconst 1, 1) := dLb_91.2.2.2.2.2.2.1
theorem dL_law_1333 : decode cL_law 1333 = .ok (.iadd, 1) := dLb_91.2.2.2.2.2.2.2.1
theorem dL_law_1334 : decode cL_law 1334 = .ok (.iaload, 1) := dLb_91.2.2.2.2.2.2.2.2.1
theorem dL_law_1335 : decode cL_law 1335 = .ok (.invokevirtual 154, 3) := dLb_91.2.2.2.2.2.2.2.2.2
theorem dLb_92 : (decode cL_law 1338 = .ok (.pop, 1)) ∧ (decode cL_law 1339 = .ok (.aload_n 2, 1)) ∧ (decode cL_law 1340 = .ok (.aload_n 0, 1)) ∧ (decode cL_law 1341 = .ok (.iload_n 3, 1)) ∧ (decode cL_law 1342 = .ok (.iconst 1, 1)) ∧ (decode cL_law 1343 = .ok (.iadd, 1)) ∧ (decode cL_law 1344 = .ok (.iaload, 1)) ∧ (decode cL_law 1345 = .ok (.invokevirtual 157, 3)) ∧ (decode cL_law 1348 = .ok (.pop, 1)) ∧ (decode cL_law 1349 = .ok (.goto 455, 3)) := by decide +kernel
theorem dL_law_1338 : decode cL_law 1338 = .ok (.pop, 1) := dLb_92.1
theorem dL_law_1339 : decode cL_law 1339 = .ok (.aload_n 2, 1) := dLb_92.2.1
theorem dL_law_1340 : decode cL_law 1340 = .ok (.aload_n 0, 1) := dLb_92.2.2.1
theorem dL_law_1341 : decode cL_law 1341 = .ok (.iload_n 3, 1) := dLb_92.2.2.2.1
theorem dL_law_1342 : decode cL_law 1342 = .ok (.iconst 1, 1) := dLb_92.2.2.2.2.1
theorem dL_law_1343 : decode cL_law 1343 = .ok (.iadd, 1) := dLb_92.2.2.2.2.2.1
theorem dL_law_1344 : decode cL_law 1344 = .ok (.iaload, 1) := dLb_92.2.2.2.2.2.2.1
theorem dL_law_1345 : decode cL_law 1345 = .ok (.invokevirtual 157, 3) := dLb_92.2.2.2.2.2.2.2.1
theorem dL_law_1348 : decode cL_law 1348 = .ok (.pop, 1) := dLb_92.2.2.2.2.2.2.2.2.1
theorem dL_law_1349 : decode cL_law 1349 = .ok (.goto 455, 3) := dLb_92.2.2.2.2.2.2.2.2.2
theorem dLb_93 : (decode cL_law 1352 = .ok (.aload_n 1, 1)) ∧ (decode cL_law 1353 = .ok (.aload_n 0, 1)) ∧ (decode cL_law 1354 = .ok (.iload_n 3, 1)) ∧ (decode cL_law 1355 = .ok (.iconst 1, 1)) ∧ (decode cL_law 1356 = .ok (.iadd, 1)) ∧ (decode cL_law 1357 = .ok (.iaload, 1)) ∧ (decode cL_law 1358 = .ok (.invokevirtual 158, 3)) ∧ (decode cL_law 1361 = .ok (.pop, 1)) ∧ (decode cL_law 1362 = .ok (.aload_n 2, 1)) ∧ (decode cL_law 1363 = .ok (.aload_n 0, 1)) := by decide +kernel
theorem dL_law_1352 : decode cL_law 1352 = .ok (.aload_n 1, 1) := dLb_93.1
theorem dL_law_1353 : decode cL_law 1353 = .ok (.aload_n 0, 1) := dLb_93.2.1
theorem dL_law_1354 : decode cL_law 1354 = .ok (.iload_n 3, 1) := dLb_93.2.2.1
theorem dL_law_1355 : decode cL_law 1355 = .ok (.iconst 1, 1) := dLb_93.2.2.2.1
theorem dL_law_1356 : decode cL_law 1356 = .ok (.iadd, 1) := dLb_93.2.2.2.2.1
theorem dL_law_1357 : decode cL_law 1357 = .ok (.iaload, 1) := dLb_93.2.2.2.2.2.1
theorem dL_law_1358 : decode cL_law 1358 = .ok (.invokevirtual 158, 3) := dLb_93.2.2.2.2.2.2.1
theorem dL_law_1361 : decode cL_law 1361 = .ok (.pop, 1) := dLb_93.2.2.2.2.2.2.2.1
theorem dL_law_1362 : decode cL_law 1362 = .ok (.aload_n 2, 1) := dLb_93.2.2.2.2.2.2.2.2.1
theorem dL_law_1363 : decode cL_law 1363 = .ok (.aload_n 0, 1) := dLb_93.2.2.2.2.2.2.2.2.2
theorem dLb_94 : (decode cL_law 1364 = .ok (.iload_n 3, 1)) ∧ (decode cL_law 1365 = .ok (.iconst 1, 1)) ∧ (decode cL_law 1366 = .ok (.iadd, 1)) ∧ (decode cL_law 1367 = .ok (.iaload, 1)) ∧ (decode cL_law 1368 = .ok (.invokevirtual 161, 3)) ∧ (decode cL_law 1371 = .ok (.pop, 1)) ∧ (decode cL_law 1372 = .ok (.goto 432, 3)) ∧ (decode cL_law 1375 = .ok (.aload_n 1, 1)) ∧ (decode cL_law 1376 = .ok (.aload_n 0, 1)) ∧ (decode cL_law 1377 = .ok (.iload_n 3, 1)) := by decide +kernel
theorem dL_law_1364 : decode cL_law 1364 = .ok (.iload_n 3, 1) := dLb_94.1
theorem dL_law_1365 : decode cL_law 1365 = .ok (.iconst 1, 1) := dLb_94.2.1
theorem dL_law_1366 : decode cL_law 1366 = .ok (.iadd, 1) := dLb_94.2.2.1
theorem dL_law_1367 : decode cL_law 1367 = .ok (.iaload, 1) := dLb_94.2.2.2.1
theorem dL_law_1368 : decode cL_law 1368 = .ok (.invokevirtual 161, 3) := dLb_94.2.2.2.2.1
theorem dL_law_1371 : decode cL_law 1371 = .ok (.pop, 1) := dLb_94.2.2.2.2.2.1
theorem dL_law_1372 : decode cL_law 1372 = .ok (.goto 432, 3) := dLb_94.2.2.2.2.2.2.1
theorem dL_law_1375 : decode cL_law 1375 = .ok (.aload_n 1, 1) := dLb_94.2.2.2.2.2.2.2.1
theorem dL_law_1376 : decode cL_law 1376 = .ok (.aload_n 0, 1) := dLb_94.2.2.2.2.2.2.2.2.1
theorem dL_law_1377 : decode cL_law 1377 = .ok (.iload_n 3, 1) := dLb_94.2.2.2.2.2.2.2.2.2
theorem dLb_95 : (decode cL_law 1378 = .ok (.iconst 1, 1)) ∧ (decode cL_law 1379 = .ok (.iadd, 1)) ∧ (decode cL_law 1380 = .ok (.iaload, 1)) ∧ (decode cL_law 1381 = .ok (.invokevirtual 162, 3)) ∧ (decode cL_law 1384 = .ok (.pop, 1)) ∧ (decode cL_law 1385 = .ok (.aload_n 2, 1)) ∧ (decode cL_law 1386 = .ok (.aload_n 0, 1)) ∧ (decode cL_law 1387 = .ok (.iload_n 3, 1)) ∧ (decode cL_law 1388 = .ok (.iconst 1, 1)) ∧ (decode cL_law 1389 = .ok (.iadd, 1)) := by decide +kernel
theorem dL_law_1378 : decode cL_law 1378 = .ok (.iconst 1, 1) := dLb_95.1
theorem dL_law_1379 : decode cL_law 1379 = .ok (.iadd, 1) := dLb_95.2.1
theorem dL_law_1380 : decode cL_law 1380 = .ok (.iaload, 1) := dLb_95.2.2.1
theorem dL_law_1381 : decode cL_law 1381 = .ok (.invokevirtual 162, 3) := dLb_95.2.2.2.1
theorem dL_law_1384 : decode cL_law 1384 = .ok (.pop, 1) := dLb_95.2.2.2.2.1
theorem dL_law_1385 : decode cL_law 1385 = .ok (.aload_n 2, 1) := dLb_95.2.2.2.2.2.1
theorem dL_law_1386 : decode cL_law 1386 = .ok (.aload_n 0, 1) := dLb_95.2.2.2.2.2.2.1
theorem dL_law_1387 : decode cL_law 1387 = .ok (.iload_n 3, 1) := dLb_95.2.2.2.2.2.2.2.1
theorem dL_law_1388 : decode cL_law 1388 = .ok (.iconst 1, 1) := dLb_95.2.2.2.2.2.2.2.2.1
theorem dL_law_1389 : decode cL_law 1389 = .ok (.iadd, 1) := dLb_95.2.2.2.2.2.2.2.2.2
theorem dLb_96 : (decode cL_law 1390 = .ok (.iaload, 1)) ∧ (decode cL_law 1391 = .ok (.invokevirtual 165, 3)) ∧ (decode cL_law 1394 = .ok (.pop, 1)) ∧ (decode cL_law 1395 = .ok (.goto 409, 3)) ∧ (decode cL_law 1398 = .ok (.aload_n 1, 1)) ∧ (decode cL_law 1399 = .ok (.aload_n 0, 1)) ∧ (decode cL_law 1400 = .ok (.iload_n 3, 1)) ∧ (decode cL_law 1401 = .ok (.iconst 1, 1)) ∧ (decode cL_law 1402 = .ok (.iadd, 1)) ∧ (decode cL_law 1403 = .ok (.iaload, 1)) := by decide +kernel
theorem dL_law_1390 : decode cL_law 1390 = .ok (.iaload, 1) := dLb_96.1
theorem dL_law_1391 : decode cL_law 1391 = .ok (.invokevirtual 165, 3) := dLb_96.2.1
theorem dL_law_1394 : decode cL_law 1394 = .ok (.pop, 1) := dLb_96.2.2.1
theorem dL_law_1395 : decode cL_law 1395 = .ok (.goto 409, 3) := dLb_96.2.2.2.1
theorem dL_law_1398 : decode cL_law 1398 = .ok (.aload_n 1, 1) := dLb_96.2.2.2.2.1
theorem dL_law_1399 : decode cL_law 1399 = .ok (.aload_n 0, 1) := dLb_96.2.2.2.2.2.1
theorem dL_law_1400 : decode cL_law 1400 = .ok (.iload_n 3, 1) := dLb_96.2.2.2.2.2.2.1
theorem dL_law_1401 : decode cL_law 1401 = .ok (.iconst 1, 1) := dLb_96.2.2.2.2.2.2.2.1
theorem dL_law_1402 : decode cL_law 1402 = .ok (.iadd, 1) := dLb_96.2.2.2.2.2.2.2.2.1
theorem dL_law_1403 : decode cL_law 1403 = .ok (.iaload, 1) := dLb_96.2.2.2.2.2.2.2.2.2
theorem dLb_97 : (decode cL_law 1404 = .ok (.aload_n 0, 1)) ∧ (decode cL_law 1405 = .ok (.iload_n 3, 1)) ∧ (decode cL_law 1406 = .ok (.iconst 2, 1)) ∧ (decode cL_law 1407 = .ok (.iadd, 1)) ∧ (decode cL_law 1408 = .ok (.iaload, 1)) ∧ (decode cL_law 1409 = .ok (.aload_n 0, 1)) ∧ (decode cL_law 1410 = .ok (.iload_n 3, 1)) ∧ (decode cL_law 1411 = .ok (.iconst 3, 1)) ∧ (decode cL_law 1412 = .ok (.iadd, 1)) ∧ (decode cL_law 1413 = .ok (.iaload, 1)) := by decide +kernel
theorem dL_law_1404 : decode cL_law 1404 = .ok (.aload_n 0, 1) := dLb_97.1
theorem dL_law_1405 : decode cL_law 1405 = .ok (.iload_n 3, 1) := dLb_97.2.1
theorem dL_law_1406 : decode cL_law 1406 = .ok (.iconst 2, 1) := dLb_97.2.2.1
theorem dL_law_1407 : decode cL_law 1407 = .ok (.iadd, 1) := dLb_97.2.2.2.1
theorem dL_law_1408 : decode cL_law 1408 = .ok (.iaload, 1) := dLb_97.2.2.2.2.1
theorem dL_law_1409 : decode cL_law 1409 = .ok (.aload_n 0, 1) := dLb_97.2.2.2.2.2.1
theorem dL_law_1410 : decode cL_law 1410 = .ok (.iload_n 3, 1) := dLb_97.2.2.2.2.2.2.1
theorem dL_law_1411 : decode cL_law 1411 = .ok (.iconst 3, 1) := dLb_97.2.2.2.2.2.2.2.1
theorem dL_law_1412 : decode cL_law 1412 = .ok (.iadd, 1) := dLb_97.2.2.2.2.2.2.2.2.1
theorem dL_law_1413 : decode cL_law 1413 = .ok (.iaload, 1) := dLb_97.2.2.2.2.2.2.2.2.2
theorem dLb_98 : (decode cL_law 1414 = .ok (.invokevirtual 166, 3)) ∧ (decode cL_law 1417 = .ok (.pop, 1)) ∧ (decode cL_law 1418 = .ok (.aload_n 2, 1)) ∧ (decode cL_law 1419 = .ok (.aload_n 0, 1)) ∧ (decode cL_law 1420 = .ok (.iload_n 3, 1)) ∧ (decode cL_law 1421 = .ok (.iconst 1, 1)) ∧ (decode cL_law 1422 = .ok (.iadd, 1)) ∧ (decode cL_law 1423 = .ok (.iaload, 1)) ∧ (decode cL_law 1424 = .ok (.aload_n 0, 1)) ∧ (decode cL_law 1425 = .ok (.iload_n 3, 1)) := by decide +kernel
theorem dL_law_1414 : decode cL_law 1414 = .ok (.invokevirtual 166, 3) := dLb_98.1
theorem dL_law_1417 : decode cL_law 1417 = .ok (.pop, 1) := dLb_98.2.1
theorem dL_law_1418 : decode cL_law 1418 = .ok (.aload_n 2, 1) := dLb_98.2.2.1
theorem dL_law_1419 : decode cL_law 1419 = .ok (.aload_n 0, 1) := dLb_98.2.2.2.1
theorem dL_law_1420 : decode cL_law 1420 = .ok (.iload_n 3, 1) := dLb_98.2.2.2.2.1
theorem dL_law_1421 : decode cL_law 1421 = .ok (.iconst 1, 1) := dLb_98.2.2.2.2.2.1
theorem dL_law_1422 : decode cL_law 1422 = .ok (.iadd, 1) := dLb_98.2.2.2.2.2.2.1
theorem dL_law_1423 : decode cL_law 1423 = .ok (.iaload, 1) := dLb_98.2.2.2.2.2.2.2.1
theorem dL_law_1424 : decode cL_law 1424 = .ok (.aload_n 0, 1) := dLb_98.2.2.2.2.2.2.2.2.1
theorem dL_law_1425 : decode cL_law 1425 = .ok (.iload_n 3, 1) := dLb_98.2.2.2.2.2.2.2.2.2
theorem dLb_99 : (decode cL_law 1426 = .ok (.iconst 2, 1)) ∧ (decode cL_law 1427 = .ok (.iadd, 1)) ∧ (decode cL_law 1428 = .ok (.iaload, 1)) ∧ (decode cL_law 1429 = .ok (.aload_n 0, 1)) ∧ (decode cL_law 1430 = .ok (.iload_n 3, 1)) ∧ (decode cL_law 1431 = .ok (.iconst 3, 1)) ∧ (decode cL_law 1432 = .ok (.iadd, 1)) ∧ (decode cL_law 1433 = .ok (.iaload, 1)) ∧ (decode cL_law 1434 = .ok (.invokevirtual 169, 3)) ∧ (decode cL_law 1437 = .ok (.pop, 1)) := by decide +kernel
theorem dL_law_1426 : decode cL_law 1426 = .ok (.iconst 2, 1) := dLb_99.1
theorem dL_law_1427 : decode cL_law 1427 = .ok (.iadd, 1) := dLb_99.2.1
theorem dL_law_1428 : decode cL_law 1428 = .ok (.iaload, 1) := dLb_99.2.2.1
theorem dL_law_1429 : decode cL_law 1429 = .ok (.aload_n 0, 1) := dLb_99.2.2.2.1
theorem dL_law_1430 : decode cL_law 1430 = .ok (.iload_n 3, 1) := dLb_99.2.2.2.2.1
theorem dL_law_1431 : decode cL_law 1431 = .ok (.iconst 3, 1) := dLb_99.2.2.2.2.2.1
theorem dL_law_1432 : decode cL_law 1432 = .ok (.iadd, 1) := dLb_99.2.2.2.2.2.2.1
theorem dL_law_1433 : decode cL_law 1433 = .ok (.iaload, 1) := dLb_99.2.2.2.2.2.2.2.1
theorem dL_law_1434 : decode cL_law 1434 = .ok (.invokevirtual 169, 3) := dLb_99.2.2.2.2.2.2.2.2.1
theorem dL_law_1437 : decode cL_law 1437 = .ok (.pop, 1) := dLb_99.2.2.2.2.2.2.2.2.2
theorem dLb_100 : (decode cL_law 1438 = .ok (.goto 366, 3)) ∧ (decode cL_law 1441 = .ok (.aload_n 1, 1)) ∧ (decode cL_law 1442 = .ok (.aload_n 0, 1)) ∧ (decode cL_law 1443 = .ok (.iload_n 3, 1)) ∧ (decode cL_law 1444 = .ok (.iconst 1, 1)) ∧ (decode cL_law 1445 = .ok (.iadd, 1)) ∧ (decode cL_law 1446 = .ok (.iaload, 1)) ∧ (decode cL_law 1447 = .ok (.aload_n 0, 1)) ∧ (decode cL_law 1448 = .ok (.iload_n 3, 1)) ∧ (decode cL_law 1449 = .ok (.iconst 2, 1)) := by decide +kernel
theorem dL_law_1438 : decode cL_law 1438 = .ok (.goto 366, 3) := dLb_100.1
theorem dL_law_1441 : decode cL_law 1441 = .ok (.aload_n 1, 1) := dLb_100.2.1
theorem dL_law_1442 : decode cL_law 1442 = .ok (.aload_n 0, 1) := dLb_100.2.2.1
theorem dL_law_1443 : decode cL_law 1443 = .ok (.iload_n 3, 1) := dLb_100.2.2.2.1
theorem dL_law_1444 : decode cL_law 1444 = .ok (.iconst 1, 1) := dLb_100.2.2.2.2.1
theorem dL_law_1445 : decode cL_law 1445 = .ok (.iadd, 1) := dLb_100.2.2.2.2.2.1
theorem dL_law_1446 : decode cL_law 1446 = .ok (.iaload, 1) := dLb_100.2.2.2.2.2.2.1
theorem dL_law_1447 : decode cL_law 1447 = .ok (.aload_n 0, 1) := dLb_100.2.2.2.2.2.2.2.1
theorem dL_law_1448 : decode cL_law 1448 = .ok (.iload_n 3, 1) := dLb_100.2.2.2.2.2.2.2.2.1
theorem dL_law_1449 : decode cL_law 1449 = .ok (.iconst 2, 1) := dLb_100.2.2.2.2.2.2.2.2.2
theorem dLb_101 : (decode cL_law 1450 = .ok (.iadd, 1)) ∧ (decode cL_law 1451 = .ok (.iaload, 1)) ∧ (decode cL_law 1452 = .ok (.invokevirtual 170, 3)) ∧ (decode cL_law 1455 = .ok (.pop, 1)) ∧ (decode cL_law 1456 = .ok (.aload_n 2, 1)) ∧ (decode cL_law 1457 = .ok (.aload_n 0, 1)) ∧ (decode cL_law 1458 = .ok (.iload_n 3, 1)) ∧ (decode cL_law 1459 = .ok (.iconst 1, 1)) ∧ (decode cL_law 1460 = .ok (.iadd, 1)) ∧ (decode cL_law 1461 = .ok (.iaload, 1)) := by decide +kernel
theorem dL_law_1450 : decode cL_law 1450 = .ok (.iadd, 1) := dLb_101.1
theorem dL_law_1451 : decode cL_law 1451 = .ok (.iaload, 1) := dLb_101.2.1
theorem dL_law_1452 : decode cL_law 1452 = .ok (.invokevirtual 170, 3) := dLb_101.2.2.1
theorem dL_law_1455 : decode cL_law 1455 = .ok (.pop, 1) := dLb_101.2.2.2.1
theorem dL_law_1456 : decode cL_law 1456 = .ok (.aload_n 2, 1) := dLb_101.2.2.2.2.1
theorem dL_law_1457 : decode cL_law 1457 = .ok (.aload_n 0, 1) := dLb_101.2.2.2.2.2.1
theorem dL_law_1458 : decode cL_law 1458 = .ok (.iload_n 3, 1) := dLb_101.2.2.2.2.2.2.1
theorem dL_law_1459 : decode cL_law 1459 = .ok (.iconst 1, 1) := dLb_101.2.2.2.2.2.2.2.1
theorem dL_law_1460 : decode cL_law 1460 = .ok (.iadd, 1) := dLb_101.2.2.2.2.2.2.2.2.1
theorem dL_law_1461 : decode cL_law 1461 = .ok (.iaload, 1) := dLb_101.2.2.2.2.2.2.2.2.2
theorem dLb_102 : (decode cL_law 1462 = .ok (.aload_n 0, 1)) ∧ (decode cL_law 1463 = .ok (.iload_n 3, 1)) ∧ (decode cL_law 1464 = .ok (.iconst 2, 1)) ∧ (decode cL_law 1465 = .ok (.iadd, 1)) ∧ (decode cL_law 1466 = .ok (.iaload, 1)) ∧ (decode cL_law 1467 = .ok (.invokevirtual 173, 3)) ∧ (decode cL_law 1470 = .ok (.pop, 1)) ∧ (decode cL_law 1471 = .ok (.goto 333, 3)) ∧ (decode cL_law 1474 = .ok (.aload_n 1, 1)) ∧ (decode cL_law 1475 = .ok (.aload_n 0, 1)) := by decide +kernel
theorem dL_law_1462 : decode cL_law 1462 = .ok (.aload_n 0, 1) := dLb_102.1
theorem dL_law_1463 : decode cL_law 1463 = .ok (.iload_n 3, 1) := dLb_102.2.1
theorem dL_law_1464 : decode cL_law 1464 = .ok (.iconst 2, 1) := dLb_102.2.2.1
theorem dL_law_1465 : decode cL_law 1465 = .ok (.iadd, 1) := dLb_102.2.2.2.1
theorem dL_law_1466 : decode cL_law 1466 = .ok (.iaload, 1) := dLb_102.2.2.2.2.1
theorem dL_law_1467 : decode cL_law 1467 = .ok (.invokevirtual 173, 3) := dLb_102.2.2.2.2.2.1
theorem dL_law_1470 : decode cL_law 1470 = .ok (.pop, 1) := dLb_102.2.2.2.2.2.2.1
theorem dL_law_1471 : decode cL_law 1471 = .ok (.goto 333, 3) := dLb_102.2.2.2.2.2.2.2.1
theorem dL_law_1474 : decode cL_law 1474 = .ok (.aload_n 1, 1) := dLb_102.2.2.2.2.2.2.2.2.1
theorem dL_law_1475 : decode cL_law 1475 = .ok (.aload_n 0, 1) := dLb_102.2.2.2.2.2.2.2.2.2
theorem dLb_103 : (decode cL_law 1476 = .ok (.iload_n 3, 1)) ∧ (decode cL_law 1477 = .ok (.iconst 1, 1)) ∧ (decode cL_law 1478 = .ok (.iadd, 1)) ∧ (decode cL_law 1479 = .ok (.iaload, 1)) ∧ (decode cL_law 1480 = .ok (.aload_n 0, 1)) ∧ (decode cL_law 1481 = .ok (.iload_n 3, 1)) ∧ (decode cL_law 1482 = .ok (.iconst 2, 1)) ∧ (decode cL_law 1483 = .ok (.iadd, 1)) ∧ (decode cL_law 1484 = .ok (.iaload, 1)) ∧ (decode cL_law 1485 = .ok (.invokevirtual 174, 3)) := by decide +kernel
theorem dL_law_1476 : decode cL_law 1476 = .ok (.iload_n 3, 1) := dLb_103.1
theorem dL_law_1477 : decode cL_law 1477 = .ok (.iconst 1, 1) := dLb_103.2.1
theorem dL_law_1478 : decode cL_law 1478 = .ok (.iadd, 1) := dLb_103.2.2.1
theorem dL_law_1479 : decode cL_law 1479 = .ok (.iaload, 1) := dLb_103.2.2.2.1
theorem dL_law_1480 : decode cL_law 1480 = .ok (.aload_n 0, 1) := dLb_103.2.2.2.2.1
theorem dL_law_1481 : decode cL_law 1481 = .ok (.iload_n 3, 1) := dLb_103.2.2.2.2.2.1
theorem dL_law_1482 : decode cL_law 1482 = .ok (.iconst 2, 1) := dLb_103.2.2.2.2.2.2.1
theorem dL_law_1483 : decode cL_law 1483 = .ok (.iadd, 1) := dLb_103.2.2.2.2.2.2.2.1
theorem dL_law_1484 : decode cL_law 1484 = .ok (.iaload, 1) := dLb_103.2.2.2.2.2.2.2.2.1
theorem dL_law_1485 : decode cL_law 1485 = .ok (.invokevirtual 174, 3) := dLb_103.2.2.2.2.2.2.2.2.2
theorem dLb_104 : (decode cL_law 1488 = .ok (.pop, 1)) ∧ (decode cL_law 1489 = .ok (.aload_n 2, 1)) ∧ (decode cL_law 1490 = .ok (.aload_n 0, 1)) ∧ (decode cL_law 1491 = .ok (.iload_n 3, 1)) ∧ (decode cL_law 1492 = .ok (.iconst 1, 1)) ∧ (decode cL_law 1493 = .ok (.iadd, 1)) ∧ (decode cL_law 1494 = .ok (.iaload, 1)) ∧ (decode cL_law 1495 = .ok (.aload_n 0, 1)) ∧ (decode cL_law 1496 = .ok (.iload_n 3, 1)) ∧ (decode cL_law 1497 = .ok (.iconst 2, 1)) := by decide +kernel
theorem dL_law_1488 : decode cL_law 1488 = .ok (.pop, 1) := dLb_104.1
theorem dL_law_1489 : decode cL_law 1489 = .ok (.aload_n 2, 1) := dLb_104.2.1
theorem dL_law_1490 : decode cL_law 1490 = .ok (.aload_n 0, 1) := dLb_104.2.2.1
theorem dL_law_1491 : decode cL_law 1491 = .ok (.iload_n 3, 1) := dLb_104.2.2.2.1
theorem dL_law_1492 : decode cL_law 1492 = .ok (.iconst 1, 1) := dLb_104.2.2.2.2.1
theorem dL_law_1493 : decode cL_law 1493 = .ok (.iadd, 1) := dLb_104.2.2.2.2.2.1
theorem dL_law_1494 : decode cL_law 1494 = .ok (.iaload, 1) := dLb_104.2.2.2.2.2.2.1
theorem dL_law_1495 : decode cL_law 1495 = .ok (.aload_n 0, 1) := dLb_104.2.2.2.2.2.2.2.1
theorem dL_law_1496 : decode cL_law 1496 = .ok (.iload_n 3, 1) := dLb_104.2.2.2.2.2.2.2.2.1
theorem dL_law_1497 : decode cL_law 1497 = .ok (.iconst 2, 1) := dLb_104.2.2.2.2.2.2.2.2.2
theorem dLb_105 : (decode cL_law 1498 = .ok (.iadd, 1)) ∧ (decode cL_law 1499 = .ok (.iaload, 1)) ∧ (decode cL_law 1500 = .ok (.invokevirtual 177, 3)) ∧ (decode cL_law 1503 = .ok (.pop, 1)) ∧ (decode cL_law 1504 = .ok (.goto 300, 3)) ∧ (decode cL_law 1507 = .ok (.aload_n 1, 1)) ∧ (decode cL_law 1508 = .ok (.aload_n 0, 1)) ∧ (decode cL_law 1509 = .ok (.iload_n 3, 1)) ∧ (decode cL_law 1510 = .ok (.iconst 1, 1)) ∧ (decode cL_law 1511 = .ok (.iadd, 1)) := by decide +kernel
theorem dL_law_1498 : decode cL_law 1498 = .ok (.iadd, 1) := dLb_105.1
theorem dL_law_1499 : decode cL_law 1499 = .ok (.iaload, 1) := dLb_105.2.1
theorem dL_law_1500 : decode cL_law 1500 = .ok (.invokevirtual 177, 3) := dLb_105.2.2.1
theorem dL_law_1503 : decode cL_law 1503 = .ok (.pop, 1) := dLb_105.2.2.2.1
theorem dL_law_1504 : decode cL_law 1504 = .ok (.goto 300, 3) := dLb_105.2.2.2.2.1
theorem dL_law_1507 : decode cL_law 1507 = .ok (.aload_n 1, 1) := dLb_105.2.2.2.2.2.1
theorem dL_law_1508 : decode cL_law 1508 = .ok (.aload_n 0, 1) := dLb_105.2.2.2.2.2.2.1
theorem dL_law_1509 : decode cL_law 1509 = .ok (.iload_n 3, 1) := dLb_105.2.2.2.2.2.2.2.1
theorem dL_law_1510 : decode cL_law 1510 = .ok (.iconst 1, 1) := dLb_105.2.2.2.2.2.2.2.2.1
theorem dL_law_1511 : decode cL_law 1511 = .ok (.iadd, 1) := dLb_105.2.2.2.2.2.2.2.2.2
theorem dLb_106 : (decode cL_law 1512 = .ok (.iaload, 1)) ∧ (decode cL_law 1513 = .ok (.aload_n 0, 1)) ∧ (decode cL_law 1514 = .ok (.iload_n 3, 1)) ∧ (decode cL_law 1515 = .ok (.iconst 2, 1)) ∧ (decode cL_law 1516 = .ok (.iadd, 1)) ∧ (decode cL_law 1517 = .ok (.iaload, 1)) ∧ (decode cL_law 1518 = .ok (.invokevirtual 178, 3)) ∧ (decode cL_law 1521 = .ok (.pop, 1)) ∧ (decode cL_law 1522 = .ok (.aload_n 2, 1)) ∧ (decode cL_law 1523 = .ok (.aload_n 0, 1)) := by decide +kernel
theorem dL_law_1512 : decode cL_law 1512 = .ok (.iaload, 1) := dLb_106.1
theorem dL_law_1513 : decode cL_law 1513 = .ok (.aload_n 0, 1) := dLb_106.2.1
theorem dL_law_1514 : decode cL_law 1514 = .ok (.iload_n 3, 1) := dLb_106.2.2.1
theorem dL_law_1515 : decode cL_law 1515 = .ok (.iconst 2, 1) := dLb_106.2.2.2.1
theorem dL_law_1516 : decode cL_law 1516 = .ok (.iadd, 1) := dLb_106.2.2.2.2.1
theorem dL_law_1517 : decode cL_law 1517 = .ok (.iaload, 1) := dLb_106.2.2.2.2.2.1
theorem dL_law_1518 : decode cL_law 1518 = .ok (.invokevirtual 178, 3) := dLb_106.2.2.2.2.2.2.1
theorem dL_law_1521 : decode cL_law 1521 = .ok (.pop, 1) := dLb_106.2.2.2.2.2.2.2.1
theorem dL_law_1522 : decode cL_law 1522 = .ok (.aload_n 2, 1) := dLb_106.2.2.2.2.2.2.2.2.1
theorem dL_law_1523 : decode cL_law 1523 = .ok (.aload_n 0, 1) := dLb_106.2.2.2.2.2.2.2.2.2
theorem dLb_107 : (decode cL_law 1524 = .ok (.iload_n 3, 1)) ∧ (decode cL_law 1525 = .ok (.iconst 1, 1)) ∧ (decode cL_law 1526 = .ok (.iadd, 1)) ∧ (decode cL_law 1527 = .ok (.iaload, 1)) ∧ (decode cL_law 1528 = .ok (.aload_n 0, 1)) ∧ (decode cL_law 1529 = .ok (.iload_n 3, 1)) ∧ (decode cL_law 1530 = .ok (.iconst 2, 1)) ∧ (decode cL_law 1531 = .ok (.iadd, 1)) ∧ (decode cL_law 1532 = .ok (.iaload, 1)) ∧ (decode cL_law 1533 = .ok (.invokevirtual 181, 3)) := by decide +kernel
theorem dL_law_1524 : decode cL_law 1524 = .ok (.iload_n 3, 1) := dLb_107.1
theorem dL_law_1525 : decode cL_law 1525 = .ok (.iconst 1, 1) := dLb_107.2.1
theorem dL_law_1526 : decode cL_law 1526 = .ok (.iadd, 1) := dLb_107.2.2.1
theorem dL_law_1527 : decode cL_law 1527 = .ok (.iaload, 1) := dLb_107.2.2.2.1
theorem dL_law_1528 : decode cL_law 1528 = .ok (.aload_n 0, 1) := dLb_107.2.2.2.2.1
theorem dL_law_1529 : decode cL_law 1529 = .ok (.iload_n 3, 1) := dLb_107.2.2.2.2.2.1
theorem dL_law_1530 : decode cL_law 1530 = .ok (.iconst 2, 1) := dLb_107.2.2.2.2.2.2.1
theorem dL_law_1531 : decode cL_law 1531 = .ok (.iadd, 1) := dLb_107.2.2.2.2.2.2.2.1
theorem dL_law_1532 : decode cL_law 1532 = .ok (.iaload, 1) := dLb_107.2.2.2.2.2.2.2.2.1
theorem dL_law_1533 : decode cL_law 1533 = .ok (.invokevirtual 181, 3) := dLb_107.2.2.2.2.2.2.2.2.2
theorem dLb_108 : (decode cL_law 1536 = .ok (.pop, 1)) ∧ (decode cL_law 1537 = .ok (.goto 267, 3)) ∧ (decode cL_law 1540 = .ok (.aload_n 1, 1)) ∧ (decode cL_law 1541 = .ok (.aload_n 0, 1)) ∧ (decode cL_law 1542 = .ok (.iload_n 3, 1)) ∧ (decode cL_law 1543 = .ok (.iconst 1, 1)) ∧ (decode cL_law 1544 = .ok (.iadd, 1)) ∧ (decode cL_law 1545 = .ok (.iaload, 1)) ∧ (decode cL_law 1546 = .ok (.aload_n 0, 1)) ∧ (decode cL_law 1547 = .ok (.iload_n 3, 1)) := by decide +kernel
theorem dL_law_1536 : decode cL_law 1536 = .ok (.pop, 1) := dLb_108.1
theorem dL_law_1537 : decode cL_law 1537 = .ok (.goto 267, 3) := dLb_108.2.1
theorem dL_law_1540 : decode cL_law 1540 = .ok (.aload_n 1, 1) := dLb_108.2.2.1
theorem dL_law_1541 : decode cL_law 1541 = .ok (.aload_n 0, 1) := dLb_108.2.2.2.1
theorem dL_law_1542 : decode cL_law 1542 = .ok (.iload_n 3, 1) := dLb_108.2.2.2.2.1
theorem dL_law_1543 : decode cL_law 1543 = .ok (.iconst 1, 1) := dLb_108.2.2.2.2.2.1
theorem dL_law_1544 : decode cL_law 1544 = .ok (.iadd, 1) := dLb_108.2.2.2.2.2.2.1
theorem dL_law_1545 : decode cL_law 1545 = .ok (.iaload, 1) := dLb_108.2.2.2.2.2.2.2.1
theorem dL_law_1546 : decode cL_law 1546 = .ok (.aload_n 0, 1) := dLb_108.2.2.2.2.2.2.2.2.1
theorem dL_law_1547 : decode cL_law 1547 = .ok (.iload_n 3, 1) := dLb_108.2.2.2.2.2.2.2.2.2
theorem dLb_109 : (decode cL_law 1548 = .ok (.iconst 2, 1)) ∧ (decode cL_law 1549 = .ok (.iadd, 1)) ∧ (decode cL_law 1550 = .ok (.iaload, 1)) ∧ (decode cL_law 1551 = .ok (.aload_n 0, 1)) ∧ (decode cL_law 1552 = .ok (.iload_n 3, 1)) ∧ (decode cL_law 1553 = .ok (.iconst 3, 1)) ∧ (decode cL_law 1554 = .ok (.iadd, 1)) ∧ (decode cL_law 1555 = .ok (.iaload, 1)) ∧ (decode cL_law 1556 = .ok (.invokevirtual 182, 3)) ∧ (decode cL_law 1559 = .ok (.pop, 1)) := by decide +kernel
theorem dL_law_1548 : decode cL_law 1548 = .ok (.iconst 2, 1) := dLb_109.1
theorem dL_law_1549 : decode cL_law 1549 = .ok (.iadd, 1) := dLb_109.2.1
theorem dL_law_1550 : decode cL_law 1550 = .ok (.iaload, 1) := dLb_109.2.2.1
theorem dL_law_1551 : decode cL_law 1551 = .ok (.aload_n 0, 1) := dLb_109.2.2.2.1
theorem dL_law_1552 : decode cL_law 1552 = .ok (.iload_n 3, 1) := dLb_109.2.2.2.2.1
theorem dL_law_1553 : decode cL_law 1553 = .ok (.iconst 3, 1) := dLb_109.2.2.2.2.2.1
theorem dL_law_1554 : decode cL_law 1554 = .ok (.iadd, 1) := dLb_109.2.2.2.2.2.2.1
theorem dL_law_1555 : decode cL_law 1555 = .ok (.iaload, 1) := dLb_109.2.2.2.2.2.2.2.1
theorem dL_law_1556 : decode cL_law 1556 = .ok (.invokevirtual 182, 3) := dLb_109.2.2.2.2.2.2.2.2.1
theorem dL_law_1559 : decode cL_law 1559 = .ok (.pop, 1) := dLb_109.2.2.2.2.2.2.2.2.2
theorem dLb_110 : (decode cL_law 1560 = .ok (.aload_n 2, 1)) ∧ (decode cL_law 1561 = .ok (.aload_n 0, 1)) ∧ (decode cL_law 1562 = .ok (.iload_n 3, 1)) ∧ (decode cL_law 1563 = .ok (.iconst 1, 1)) ∧ (decode cL_law 1564 = .ok (.iadd, 1)) ∧ (decode cL_law 1565 = .ok (.iaload, 1)) ∧ (decode cL_law 1566 = .ok (.aload_n 0, 1)) ∧ (decode cL_law 1567 = .ok (.iload_n 3, 1)) ∧ (decode cL_law 1568 = .ok (.iconst 2, 1)) ∧ (decode cL_law 1569 = .ok (.iadd, 1)) := by decide +kernel
theorem dL_law_1560 : decode cL_law 1560 = .ok (.aload_n 2, 1) := dLb_110.1
theorem dL_law_1561 : decode cL_law 1561 = .ok (.aload_n 0, 1) := dLb_110.2.1
theorem dL_law_1562 : decode cL_law 1562 = .ok (.iload_n 3, 1) := dLb_110.2.2.1
theorem dL_law_1563 : decode cL_law 1563 = .ok (.iconst 1, 1) := dLb_110.2.2.2.1
theorem dL_law_1564 : decode cL_law 1564 = .ok (.iadd, 1) := dLb_110.2.2.2.2.1
theorem dL_law_1565 : decode cL_law 1565 = .ok (.iaload, 1) := dLb_110.2.2.2.2.2.1
theorem dL_law_1566 : decode cL_law 1566 = .ok (.aload_n 0, 1) := dLb_110.2.2.2.2.2.2.1
theorem dL_law_1567 : decode cL_law 1567 = .ok (.iload_n 3, 1) := dLb_110.2.2.2.2.2.2.2.1
theorem dL_law_1568 : decode cL_law 1568 = .ok (.iconst 2, 1) := dLb_110.2.2.2.2.2.2.2.2.1
theorem dL_law_1569 : decode cL_law 1569 = .ok (.iadd, 1) := dLb_110.2.2.2.2.2.2.2.2.2
theorem dLb_111 : (decode cL_law 1570 = .ok (.iaload, 1)) ∧ (decode cL_law 1571 = .ok (.aload_n 0, 1)) ∧ (decode cL_law 1572 = .ok (.iload_n 3, 1)) ∧ (decode cL_law 1573 = .ok (.iconst 3, 1)) ∧ (decode cL_law 1574 = .ok (.iadd, 1)) ∧ (decode cL_law 1575 = .ok (.iaload, 1)) ∧ (decode cL_law 1576 = .ok (.invokevirtual 185, 3)) ∧ (decode cL_law 1579 = .ok (.pop, 1)) ∧ (decode cL_law 1580 = .ok (.goto 224, 3)) ∧ (decode cL_law 1583 = .ok (.aload_n 1, 1)) := by decide +kernel
theorem dL_law_1570 : decode cL_law 1570 = .ok (.iaload, 1) := dLb_111.1
theorem dL_law_1571 : decode cL_law 1571 = .ok (.aload_n 0, 1) := dLb_111.2.1
theorem dL_law_1572 : decode cL_law 1572 = .ok (.iload_n 3, 1) := dLb_111.2.2.1
theorem dL_law_1573 : decode cL_law 1573 = .ok (.iconst 3, 1) := dLb_111.2.2.2.1
theorem dL_law_1574 : decode cL_law 1574 = .ok (.iadd, 1) := dLb_111.2.2.2.2.1
theorem dL_law_1575 : decode cL_law 1575 = .ok (.iaload, 1) := dLb_111.2.2.2.2.2.1
theorem dL_law_1576 : decode cL_law 1576 = .ok (.invokevirtual 185, 3) := dLb_111.2.2.2.2.2.2.1
theorem dL_law_1579 : decode cL_law 1579 = .ok (.pop, 1) := dLb_111.2.2.2.2.2.2.2.1
theorem dL_law_1580 : decode cL_law 1580 = .ok (.goto 224, 3) := dLb_111.2.2.2.2.2.2.2.2.1
theorem dL_law_1583 : decode cL_law 1583 = .ok (.aload_n 1, 1) := dLb_111.2.2.2.2.2.2.2.2.2
theorem dLb_112 : (decode cL_law 1584 = .ok (.aload_n 0, 1)) ∧ (decode cL_law 1585 = .ok (.iload_n 3, 1)) ∧ (decode cL_law 1586 = .ok (.iconst 1, 1)) ∧ (decode cL_law 1587 = .ok (.iadd, 1)) ∧ (decode cL_law 1588 = .ok (.iaload, 1)) ∧ (decode cL_law 1589 = .ok (.aload_n 0, 1)) ∧ (decode cL_law 1590 = .ok (.iload_n 3, 1)) ∧ (decode cL_law 1591 = .ok (.iconst 2, 1)) ∧ (decode cL_law 1592 = .ok (.iadd, 1)) ∧ (decode cL_law 1593 = .ok (.iaload, 1)) := by decide +kernel
theorem dL_law_1584 : decode cL_law 1584 = .ok (.aload_n 0, 1) := dLb_112.1
theorem dL_law_1585 : decode cL_law 1585 = .ok (.iload_n 3, 1) := dLb_112.2.1
theorem dL_law_1586 : decode cL_law 1586 = .ok (.iconst 1, 1) := dLb_112.2.2.1
theorem dL_law_1587 : decode cL_law 1587 = .ok (.iadd, 1) := dLb_112.2.2.2.1
theorem dL_law_1588 : decode cL_law 1588 = .ok (.iaload, 1) := dLb_112.2.2.2.2.1
theorem dL_law_1589 : decode cL_law 1589 = .ok (.aload_n 0, 1) := dLb_112.2.2.2.2.2.1
theorem dL_law_1590 : decode cL_law 1590 = .ok (.iload_n 3, 1) := dLb_112.2.2.2.2.2.2.1
theorem dL_law_1591 : decode cL_law 1591 = .ok (.iconst 2, 1) := dLb_112.2.2.2.2.2.2.2.1
theorem dL_law_1592 : decode cL_law 1592 = .ok (.iadd, 1) := dLb_112.2.2.2.2.2.2.2.2.1
theorem dL_law_1593 : decode cL_law 1593 = .ok (.iaload, 1) := dLb_112.2.2.2.2.2.2.2.2.2
theorem dLb_113 : (decode cL_law 1594 = .ok (.aload_n 0, 1)) ∧ (decode cL_law 1595 = .ok (.iload_n 3, 1)) ∧ (decode cL_law 1596 = .ok (.iconst 3, 1)) ∧ (decode cL_law 1597 = .ok (.iadd, 1)) ∧ (decode cL_law 1598 = .ok (.iaload, 1)) ∧ (decode cL_law 1599 = .ok (.aload_n 0, 1)) ∧ (decode cL_law 1600 = .ok (.iload_n 3, 1)) ∧ (decode cL_law 1601 = .ok (.iconst 4, 1)) ∧ (decode cL_law 1602 = .ok (.iadd, 1)) ∧ (decode cL_law 1603 = .ok (.iaload, 1)) := by decide +kernel
theorem dL_law_1594 : decode cL_law 1594 = .ok (.aload_n 0, 1) := dLb_113.1
theorem dL_law_1595 : decode cL_law 1595 = .ok (.iload_n 3, 1) := dLb_113.2.1
theorem dL_law_1596 : decode cL_law 1596 = .ok (.iconst 3, 1) := dLb_113.2.2.1
theorem dL_law_1597 : decode cL_law 1597 = .ok (.iadd, 1) := dLb_113.2.2.2.1
theorem dL_law_1598 : decode cL_law 1598 = .ok (.iaload, 1) := dLb_113.2.2.2.2.1
theorem dL_law_1599 : decode cL_law 1599 = .ok (.aload_n 0, 1) := dLb_113.2.2.2.2.2.1
theorem dL_law_1600 : decode cL_law 1600 = .ok (.iload_n 3, 1) := dLb_113.2.2.2.2.2.2.1
theorem dL_law_1601 : decode cL_law 1601 = .ok (.iconst 4, 1) := dLb_113.2.2.2.2.2.2.2.1
theorem dL_law_1602 : decode cL_law 1602 = .ok (.iadd, 1) := dLb_113.2.2.2.2.2.2.2.2.1
theorem dL_law_1603 : decode cL_law 1603 = .ok (.iaload, 1) := dLb_113.2.2.2.2.2.2.2.2.2
theorem dLb_114 : (decode cL_law 1604 = .ok (.invokevirtual 186, 3)) ∧ (decode cL_law 1607 = .ok (.pop, 1)) ∧ (decode cL_law 1608 = .ok (.aload_n 2, 1)) ∧ (decode cL_law 1609 = .ok (.aload_n 0, 1)) ∧ (decode cL_law 1610 = .ok (.iload_n 3, 1)) ∧ (decode cL_law 1611 = .ok (.iconst 1, 1)) ∧ (decode cL_law 1612 = .ok (.iadd, 1)) ∧ (decode cL_law 1613 = .ok (.iaload, 1)) ∧ (decode cL_law 1614 = .ok (.aload_n 0, 1)) ∧ (decode cL_law 1615 = .ok (.iload_n 3, 1)) := by decide +kernel
theorem dL_law_1604 : decode cL_law 1604 = .ok (.invokevirtual 186, 3) := dLb_114.1
theorem dL_law_1607 : decode cL_law 1607 = .ok (.pop, 1) := dLb_114.2.1
theorem dL_law_1608 : decode cL_law 1608 = .ok (.aload_n 2, 1) := dLb_114.2.2.1
theorem dL_law_1609 : decode cL_law 1609 = .ok (.aload_n 0, 1) := dLb_114.2.2.2.1
theorem dL_law_1610 : decode cL_law 1610 = .ok (.iload_n 3, 1) := dLb_114.2.2.2.2.1
theorem dL_law_1611 : decode cL_law 1611 = .ok (.iconst 1, 1) := dLb_114.2.2.2.2.2.1
theorem dL_law_1612 : decode cL_law 1612 = .ok (.iadd, 1) := dLb_114.2.2.2.2.2.2.1
theorem dL_law_1613 : decode cL_law 1613 = .ok (.iaload, 1) := dLb_114.2.2.2.2.2.2.2.1
theorem dL_law_1614 : decode cL_law 1614 = .ok (.aload_n 0, 1) := dLb_114.2.2.2.2.2.2.2.2.1
theorem dL_law_1615 : decode cL_law 1615 = .ok (.iload_n 3, 1) := dLb_114.2.2.2.2.2.2.2.2.2
theorem dLb_115 : (decode cL_law 1616 = .ok (.iconst 2, 1)) ∧ (decode cL_law 1617 = .ok (.iadd, 1)) ∧ (decode cL_law 1618 = .ok (.iaload, 1)) ∧ (decode cL_law 1619 = .ok (.aload_n 0, 1)) ∧ (decode cL_law 1620 = .ok (.iload_n 3, 1)) ∧ (decode cL_law 1621 = .ok (.iconst 3, 1)) ∧ (decode cL_law 1622 = .ok (.iadd, 1)) ∧ (decode cL_law 1623 = .ok (.iaload, 1)) ∧ (decode cL_law 1624 = .ok (.aload_n 0, 1)) ∧ (decode cL_law 1625 = .ok (.iload_n 3, 1)) := by decide +kernel
theorem dL_law_1616 : decode cL_law 1616 = .ok (.iconst 2, 1) := dLb_115.1
theorem dL_law_1617 : decode cL_law 1617 = .ok (.iadd, 1) := dLb_115.2.1
theorem dL_law_1618 : decode cL_law 1618 = .ok (.iaload, 1) := dLb_115.2.2.1
theorem dL_law_1619 : decode cL_law 1619 = .ok (.aload_n 0, 1) := dLb_115.2.2.2.1
theorem dL_law_1620 : decode cL_law 1620 = .ok (.iload_n 3, 1) := dLb_115.2.2.2.2.1
theorem dL_law_1621 : decode cL_law 1621 = .ok (.iconst 3, 1) := dLb_115.2.2.2.2.2.1
theorem dL_law_1622 : decode cL_law 1622 = .ok (.iadd, 1) := dLb_115.2.2.2.2.2.2.1
theorem dL_law_1623 : decode cL_law 1623 = .ok (.iaload, 1) := dLb_115.2.2.2.2.2.2.2.1
theorem dL_law_1624 : decode cL_law 1624 = .ok (.aload_n 0, 1) := dLb_115.2.2.2.2.2.2.2.2.1
theorem dL_law_1625 : decode cL_law 1625 = .ok (.iload_n 3, 1) := dLb_115.2.2.2.2.2.2.2.2.2
theorem dLb_116 : (decode cL_law 1626 = .ok (.iconst 4, 1)) ∧ (decode cL_law 1627 = .ok (.iadd, 1)) ∧ (decode cL_law 1628 = .ok (.iaload, 1)) ∧ (decode cL_law 1629 = .ok (.invokevirtual 189, 3)) ∧ (decode cL_law 1632 = .ok (.pop, 1)) ∧ (decode cL_law 1633 = .ok (.goto 171, 3)) ∧ (decode cL_law 1636 = .ok (.aload_n 1, 1)) ∧ (decode cL_law 1637 = .ok (.aload_n 0, 1)) ∧ (decode cL_law 1638 = .ok (.iload_n 3, 1)) ∧ (decode cL_law 1639 = .ok (.iconst 1, 1)) := by decide +kernel
theorem dL_law_1626 : decode cL_law 1626 = .ok (.iconst 4, 1) := dLb_116.1
theorem dL_law_1627 : decode cL_law 1627 = .ok (.iadd, 1) := dLb_116.2.1
theorem dL_law_1628 : decode cL_law 1628 = .ok (.iaload, 1) := dLb_116.2.2.1
theorem dL_law_1629 : decode cL_law 1629 = .ok (.invokevirtual 189, 3) := dLb_116.2.2.2.1
theorem dL_law_1632 : decode cL_law 1632 = .ok (.pop, 1) := dLb_116.2.2.2.2.1
theorem dL_law_1633 : decode cL_law 1633 = .ok (.goto 171, 3) := dLb_116.2.2.2.2.2.1
theorem dL_law_1636 : decode cL_law 1636 = .ok (.aload_n 1, 1) := dLb_116.2.2.2.2.2.2.1
theorem dL_law_1637 : decode cL_law 1637 = .ok (.aload_n 0, 1) := dLb_116.2.2.2.2.2.2.2.1
theorem dL_law_1638 : decode cL_law 1638 = .ok (.iload_n 3, 1) := dLb_116.2.2.2.2.2.2.2.2.1
theorem dL_law_1639 : decode cL_law 1639 = .ok (.iconst 1, 1) := dLb_116.2.2.2.2.2.2.2.2.2
theorem dLb_117 : (decode cL_law 1640 = .ok (.iadd, 1)) ∧ (decode cL_law 1641 = .ok (.iaload, 1)) ∧ (decode cL_law 1642 = .ok (.aload_n 0, 1)) ∧ (decode cL_law 1643 = .ok (.iload_n 3, 1)) ∧ (decode cL_law 1644 = .ok (.iconst 2, 1)) ∧ (decode cL_law 1645 = .ok (.iadd, 1)) ∧ (decode cL_law 1646 = .ok (.iaload, 1)) ∧ (decode cL_law 1647 = .ok (.aload_n 0, 1)) ∧ (decode cL_law 1648 = .ok (.iload_n 3, 1)) ∧ (decode cL_law 1649 = .ok (.iconst 3, 1)) := by decide +kernel
theorem dL_law_1640 : decode cL_law 1640 = .ok (.iadd, 1) := dLb_117.1
theorem dL_law_1641 : decode cL_law 1641 = .ok (.iaload, 1) := dLb_117.2.1
theorem dL_law_1642 : decode cL_law 1642 = .ok (.aload_n 0, 1) := dLb_117.2.2.1
theorem dL_law_1643 : decode cL_law 1643 = .ok (.iload_n 3, 1) := dLb_117.2.2.2.1
theorem dL_law_1644 : decode cL_law 1644 = .ok (.iconst 2, 1) := dLb_117.2.2.2.2.1
theorem dL_law_1645 : decode cL_law 1645 = .ok (.iadd, 1) := dLb_117.2.2.2.2.2.1
theorem dL_law_1646 : decode cL_law 1646 = .ok (.iaload, 1) := dLb_117.2.2.2.2.2.2.1
theorem dL_law_1647 : decode cL_law 1647 = .ok (.aload_n 0, 1) := dLb_117.2.2.2.2.2.2.2.1
theorem dL_law_1648 : decode cL_law 1648 = .ok (.iload_n 3, 1) := dLb_117.2.2.2.2.2.2.2.2.1
theorem dL_law_1649 : decode cL_law 1649 = .ok (.iconst 3, 1) := dLb_117.2.2.2.2.2.2.2.2.2
theorem dLb_118 : (decode cL_law 1650 = .ok (.iadd, 1)) ∧ (decode cL_law 1651 = .ok (.iaload, 1)) ∧ (decode cL_law 1652 = .ok (.invokevirtual 190, 3)) ∧ (decode cL_law 1655 = .ok (.pop, 1)) ∧ (decode cL_law 1656 = .ok (.aload_n 2, 1)) ∧ (decode cL_law 1657 = .ok (.aload_n 0, 1)) ∧ (decode cL_law 1658 = .ok (.iload_n 3, 1)) ∧ (decode cL_law 1659 = .ok (.iconst 1, 1)) ∧ (decode cL_law 1660 = .ok (.iadd, 1)) ∧ (decode cL_law 1661 = .ok (.iaload, 1)) := by decide +kernel
theorem dL_law_1650 : decode cL_law 1650 = .ok (.iadd, 1) := dLb_118.1
theorem dL_law_1651 : decode cL_law 1651 = .ok (.iaload, 1) := dLb_118.2.1
theorem dL_law_1652 : decode cL_law 1652 = .ok (.invokevirtual 190, 3) := dLb_118.2.2.1
theorem dL_law_1655 : decode cL_law 1655 = .ok (.pop, 1) := dLb_118.2.2.2.1
theorem dL_law_1656 : decode cL_law 1656 = .ok (.aload_n 2, 1) := dLb_118.2.2.2.2.1
theorem dL_law_1657 : decode cL_law 1657 = .ok (.aload_n 0, 1) := dLb_118.2.2.2.2.2.1
theorem dL_law_1658 : decode cL_law 1658 = .ok (.iload_n 3, 1) := dLb_118.2.2.2.2.2.2.1
theorem dL_law_1659 : decode cL_law 1659 = .ok (.iconst 1, 1) := dLb_118.2.2.2.2.2.2.2.1
theorem dL_law_1660 : decode cL_law 1660 = .ok (.iadd, 1) := dLb_118.2.2.2.2.2.2.2.2.1
theorem dL_law_1661 : decode cL_law 1661 = .ok (.iaload, 1) := dLb_118.2.2.2.2.2.2.2.2.2
theorem dLb_119 : (decode cL_law 1662 = .ok (.aload_n 0, 1)) ∧ (decode cL_law 1663 = .ok (.iload_n 3, 1)) ∧ (decode cL_law 1664 = .ok (.iconst 2, 1)) ∧ (decode cL_law 1665 = .ok (.iadd, 1)) ∧ (decode cL_law 1666 = .ok (.iaload, 1)) ∧ (decode cL_law 1667 = .ok (.aload_n 0, 1)) ∧ (decode cL_law 1668 = .ok (.iload_n 3, 1)) ∧ (decode cL_law 1669 = .ok (.iconst 3, 1)) ∧ (decode cL_law 1670 = .ok (.iadd, 1)) ∧ (decode cL_law 1671 = .ok (.iaload, 1)) := by decide +kernel
theorem dL_law_1662 : decode cL_law 1662 = .ok (.aload_n 0, 1) := dLb_119.1
theorem dL_law_1663 : decode cL_law 1663 = .ok (.iload_n 3, 1) := dLb_119.2.1
theorem dL_law_1664 : decode cL_law 1664 = .ok (.iconst 2, 1) := dLb_119.2.2.1
theorem dL_law_1665 : decode cL_law 1665 = .ok (.iadd, 1) := dLb_119.2.2.2.1
theorem dL_law_1666 : decode cL_law 1666 = .ok (.iaload, 1) := dLb_119.2.2.2.2.1
theorem dL_law_1667 : decode cL_law 1667 = .ok (.aload_n 0, 1) := dLb_119.2.2.2.2.2.1
theorem dL_law_1668 : decode cL_law 1668 = .ok (.iload_n 3, 1) := dLb_119.2.2.2.2.2.2.1
theorem dL_law_1669 : decode cL_law 1669 = .ok (.iconst 3, 1) := dLb_119.2.2.2.2.2.2.2.1
theorem dL_law_1670 : decode cL_law 1670 = .ok (.iadd, 1) := dLb_119.2.2.2.2.2.2.2.2.1
theorem dL_law_1671 : decode cL_law 1671 = .ok (.iaload, 1) := dLb_119.2.2.2.2.2.2.2.2.2
theorem dLb_120 : (decode cL_law 1672 = .ok (.invokevirtual 193, 3)) ∧ (decode cL_law 1675 = .ok (.pop, 1)) ∧ (decode cL_law 1676 = .ok (.goto 128, 3)) ∧ (decode cL_law 1679 = .ok (.aload_n 1, 1)) ∧ (decode cL_law 1680 = .ok (.aload_n 0, 1)) ∧ (decode cL_law 1681 = .ok (.iload_n 3, 1)) ∧ (decode cL_law 1682 = .ok (.iconst 1, 1)) ∧ (decode cL_law 1683 = .ok (.iadd, 1)) ∧ (decode cL_law 1684 = .ok (.iaload, 1)) ∧ (decode cL_law 1685 = .ok (.invokevirtual 194, 3)) := by decide +kernel
theorem dL_law_1672 : decode cL_law 1672 = .ok (.invokevirtual 193, 3) := dLb_120.1
theorem dL_law_1675 : decode cL_law 1675 = .ok (.pop, 1) := dLb_120.2.1
theorem dL_law_1676 : decode cL_law 1676 = .ok (.goto 128, 3) := dLb_120.2.2.1
theorem dL_law_1679 : decode cL_law 1679 = .ok (.aload_n 1, 1) := dLb_120.2.2.2.1
theorem dL_law_1680 : decode cL_law 1680 = .ok (.aload_n 0, 1) := dLb_120.2.2.2.2.1
theorem dL_law_1681 : decode cL_law 1681 = .ok (.iload_n 3, 1) := dLb_120.2.2.2.2.2.1
theorem dL_law_1682 : decode cL_law 1682 = .ok (.iconst 1, 1) := dLb_120.2.2.2.2.2.2.1
theorem dL_law_1683 : decode cL_law 1683 = .ok (.iadd, 1) := dLb_120.2.2.2.2.2.2.2.1
theorem dL_law_1684 : decode cL_law 1684 = .ok (.iaload, 1) := dLb_120.2.2.2.2.2.2.2.2.1
theorem dL_law_1685 : decode cL_law 1685 = .ok (.invokevirtual 194, 3) := dLb_120.2.2.2.2.2.2.2.2.2
theorem dLb_121 : (decode cL_law 1688 = .ok (.pop, 1)) ∧ (decode cL_law 1689 = .ok (.aload_n 2, 1)) ∧ (decode cL_law 1690 = .ok (.aload_n 0, 1)) ∧ (decode cL_law 1691 = .ok (.iload_n 3, 1)) ∧ (decode cL_law 1692 = .ok (.iconst 1, 1)) ∧ (decode cL_law 1693 = .ok (.iadd, 1)) ∧ (decode cL_law 1694 = .ok (.iaload, 1)) ∧ (decode cL_law 1695 = .ok (.invokevirtual 197, 3)) ∧ (decode cL_law 1698 = .ok (.pop, 1)) ∧ (decode cL_law 1699 = .ok (.goto 105, 3)) := by decide +kernel
theorem dL_law_1688 : decode cL_law 1688 = .ok (.pop, 1) := dLb_121.1
theorem dL_law_1689 : decode cL_law 1689 = .ok (.aload_n 2, 1) := dLb_121.2.1
theorem dL_law_1690 : decode cL_law 1690 = .ok (.aload_n 0, 1) := dLb_121.2.2.1
theorem dL_law_1691 : decode cL_law 1691 = .ok (.iload_n 3, 1) := dLb_121.2.2.2.1
theorem dL_law_1692 : decode cL_law 1692 = .ok (.iconst 1, 1) := dLb_121.2.2.2.2.1
theorem dL_law_1693 : decode cL_law 1693 = .ok (.iadd, 1) := dLb_121.2.2.2.2.2.1
theorem dL_law_1694 : decode cL_law 1694 = .ok (.iaload, 1) := dLb_121.2.2.2.2.2.2.1
theorem dL_law_1695 : decode cL_law 1695 = .ok (.invokevirtual 197, 3) := dLb_121.2.2.2.2.2.2.2.1
theorem dL_law_1698 : decode cL_law 1698 = .ok (.pop, 1) := dLb_121.2.2.2.2.2.2.2.2.1
theorem dL_law_1699 : decode cL_law 1699 = .ok (.goto 105, 3) := dLb_121.2.2.2.2.2.2.2.2.2
theorem dLb_122 : (decode cL_law 1702 = .ok (.aload_n 1, 1)) ∧ (decode cL_law 1703 = .ok (.invokevirtual 198, 3)) ∧ (decode cL_law 1706 = .ok (.pop, 1)) ∧ (decode cL_law 1707 = .ok (.aload_n 2, 1)) ∧ (decode cL_law 1708 = .ok (.invokevirtual 201, 3)) ∧ (decode cL_law 1711 = .ok (.pop, 1)) ∧ (decode cL_law 1712 = .ok (.goto 92, 3)) ∧ (decode cL_law 1715 = .ok (.aload_n 1, 1)) ∧ (decode cL_law 1716 = .ok (.aload_n 0, 1)) ∧ (decode cL_law 1717 = .ok (.iload_n 3, 1)) := by decide +kernel
theorem dL_law_1702 : decode cL_law 1702 = .ok (.aload_n 1, 1) := dLb_122.1
theorem dL_law_1703 : decode cL_law 1703 = .ok (.invokevirtual 198, 3) := dLb_122.2.1
theorem dL_law_1706 : decode cL_law 1706 = .ok (.pop, 1) := dLb_122.2.2.1
theorem dL_law_1707 : decode cL_law 1707 = .ok (.aload_n 2, 1) := dLb_122.2.2.2.1
theorem dL_law_1708 : decode cL_law 1708 = .ok (.invokevirtual 201, 3) := dLb_122.2.2.2.2.1
theorem dL_law_1711 : decode cL_law 1711 = .ok (.pop, 1) := dLb_122.2.2.2.2.2.1
theorem dL_law_1712 : decode cL_law 1712 = .ok (.goto 92, 3) := dLb_122.2.2.2.2.2.2.1
theorem dL_law_1715 : decode cL_law 1715 = .ok (.aload_n 1, 1) := dLb_122.2.2.2.2.2.2.2.1
theorem dL_law_1716 : decode cL_law 1716 = .ok (.aload_n 0, 1) := dLb_122.2.2.2.2.2.2.2.2.1
theorem dL_law_1717 : decode cL_law 1717 = .ok (.iload_n 3, 1) := dLb_122.2.2.2.2.2.2.2.2.2
theorem dLb_123 : (decode cL_law 1718 = .ok (.iconst 1, 1)) ∧ (decode cL_law 1719 = .ok (.iadd, 1)) ∧ (decode cL_law 1720 = .ok (.iaload, 1)) ∧ (decode cL_law 1721 = .ok (.aload_n 0, 1)) ∧ (decode cL_law 1722 = .ok (.iload_n 3, 1)) ∧ (decode cL_law 1723 = .ok (.iconst 2, 1)) ∧ (decode cL_law 1724 = .ok (.iadd, 1)) ∧ (decode cL_law 1725 = .ok (.iaload, 1)) ∧ (decode cL_law 1726 = .ok (.invokevirtual 202, 3)) ∧ (decode cL_law 1729 = .ok (.pop, 1)) := by decide +kernel
theorem dL_law_1718 : decode cL_law 1718 = .ok (.iconst 1, 1) := dLb_123.1
theorem dL_law_1719 : decode cL_law 1719 = .ok (.iadd, 1) := dLb_123.2.1
theorem dL_law_1720 : decode cL_law 1720 = .ok (.iaload, 1) := dLb_123.2.2.1
theorem dL_law_1721 : decode cL_law 1721 = .ok (.aload_n 0, 1) := dLb_123.2.2.2.1
theorem dL_law_1722 : decode cL_law 1722 = .ok (.iload_n 3, 1) := dLb_123.2.2.2.2.1
theorem dL_law_1723 : decode cL_law 1723 = .ok (.iconst 2, 1) := dLb_123.2.2.2.2.2.1
theorem dL_law_1724 : decode cL_law 1724 = .ok (.iadd, 1) := dLb_123.2.2.2.2.2.2.1
theorem dL_law_1725 : decode cL_law 1725 = .ok (.iaload, 1) := dLb_123.2.2.2.2.2.2.2.1
theorem dL_law_1726 : decode cL_law 1726 = .ok (.invokevirtual 202, 3) := dLb_123.2.2.2.2.2.2.2.2.1
theorem dL_law_1729 : decode cL_law 1729 = .ok (.pop, 1) := dLb_123.2.2.2.2.2.2.2.2.2
theorem dLb_124 : (decode cL_law 1730 = .ok (.aload_n 2, 1)) ∧ (decode cL_law 1731 = .ok (.aload_n 0, 1)) ∧ (decode cL_law 1732 = .ok (.iload_n 3, 1)) ∧ (decode cL_law 1733 = .ok (.iconst 1, 1)) ∧ (decode cL_law 1734 = .ok (.iadd, 1)) ∧ (decode cL_law 1735 = .ok (.iaload, 1)) ∧ (decode cL_law 1736 = .ok (.aload_n 0, 1)) ∧ (decode cL_law 1737 = .ok (.iload_n 3, 1)) ∧ (decode cL_law 1738 = .ok (.iconst 2, 1)) ∧ (decode cL_law 1739 = .ok (.iadd, 1)) := by decide +kernel
theorem dL_law_1730 : decode cL_law 1730 = .ok (.aload_n 2, 1) := dLb_124.1
theorem dL_law_1731 : decode cL_law 1731 = .ok (.aload_n 0, 1) := dLb_124.2.1
theorem dL_law_1732 : decode cL_law 1732 = .ok (.iload_n 3, 1) := dLb_124.2.2.1
theorem dL_law_1733 : decode cL_law 1733 = .ok (.iconst 1, 1) := dLb_124.2.2.2.1
theorem dL_law_1734 : decode cL_law 1734 = .ok (.iadd, 1) := dLb_124.2.2.2.2.1
theorem dL_law_1735 : decode cL_law 1735 = .ok (.iaload, 1) := dLb_124.2.2.2.2.2.1
theorem dL_law_1736 : decode cL_law 1736 = .ok (.aload_n 0, 1) := dLb_124.2.2.2.2.2.2.1
theorem dL_law_1737 : decode cL_law 1737 = .ok (.iload_n 3, 1) := dLb_124.2.2.2.2.2.2.2.1
theorem dL_law_1738 : decode cL_law 1738 = .ok (.iconst 2, 1) := dLb_124.2.2.2.2.2.2.2.2.1
theorem dL_law_1739 : decode cL_law 1739 = .ok (.iadd, 1) := dLb_124.2.2.2.2.2.2.2.2.2
theorem dLb_125 : (decode cL_law 1740 = .ok (.iaload, 1)) ∧ (decode cL_law 1741 = .ok (.invokevirtual 205, 3)) ∧ (decode cL_law 1744 = .ok (.pop, 1)) ∧ (decode cL_law 1745 = .ok (.goto 59, 3)) ∧ (decode cL_law 1748 = .ok (.aload_n 1, 1)) ∧ (decode cL_law 1749 = .ok (.aload_n 0, 1)) ∧ (decode cL_law 1750 = .ok (.iload_n 3, 1)) ∧ (decode cL_law 1751 = .ok (.iconst 1, 1)) ∧ (decode cL_law 1752 = .ok (.iadd, 1)) ∧ (decode cL_law 1753 = .ok (.iaload, 1)) := by decide +kernel
theorem dL_law_1740 : decode cL_law 1740 = .ok (.iaload, 1) := dLb_125.1
theorem dL_law_1741 : decode cL_law 1741 = .ok (.invokevirtual 205, 3) := dLb_125.2.1
theorem dL_law_1744 : decode cL_law 1744 = .ok (.pop, 1) := dLb_125.2.2.1
theorem dL_law_1745 : decode cL_law 1745 = .ok (.goto 59, 3) := dLb_125.2.2.2.1
theorem dL_law_1748 : decode cL_law 1748 = .ok (.aload_n 1, 1) := dLb_125.2.2.2.2.1
theorem dL_law_1749 : decode cL_law 1749 = .ok (.aload_n 0, 1) := dLb_125.2.2.2.2.2.1
theorem dL_law_1750 : decode cL_law 1750 = .ok (.iload_n 3, 1) := dLb_125.2.2.2.2.2.2.1
theorem dL_law_1751 : decode cL_law 1751 = .ok (.iconst 1, 1) := dLb_125.2.2.2.2.2.2.2.1
theorem dL_law_1752 : decode cL_law 1752 = .ok (.iadd, 1) := dLb_125.2.2.2.2.2.2.2.2.1
theorem dL_law_1753 : decode cL_law 1753 = .ok (.iaload, 1) := dLb_125.2.2.2.2.2.2.2.2.2
theorem dLb_126 : (decode cL_law 1754 = .ok (.aload_n 0, 1)) ∧ (decode cL_law 1755 = .ok (.iload_n 3, 1)) ∧ (decode cL_law 1756 = .ok (.iconst 2, 1)) ∧ (decode cL_law 1757 = .ok (.iadd, 1)) ∧ (decode cL_law 1758 = .ok (.iaload, 1)) ∧ (decode cL_law 1759 = .ok (.invokevirtual 206, 3)) ∧ (decode cL_law 1762 = .ok (.pop, 1)) ∧ (decode cL_law 1763 = .ok (.aload_n 2, 1)) ∧ (decode cL_law 1764 = .ok (.aload_n 0, 1)) ∧ (decode cL_law 1765 = .ok (.iload_n 3, 1)) := by decide +kernel
theorem dL_law_1754 : decode cL_law 1754 = .ok (.aload_n 0, 1) := dLb_126.1
theorem dL_law_1755 : decode cL_law 1755 = .ok (.iload_n 3, 1) := dLb_126.2.1
theorem dL_law_1756 : decode cL_law 1756 = .ok (.iconst 2, 1) := dLb_126.2.2.1
theorem dL_law_1757 : decode cL_law 1757 = .ok (.iadd, 1) := dLb_126.2.2.2.1
theorem dL_law_1758 : decode cL_law 1758 = .ok (.iaload, 1) := dLb_126.2.2.2.2.1
theorem dL_law_1759 : decode cL_law 1759 = .ok (.invokevirtual 206, 3) := dLb_126.2.2.2.2.2.1
theorem dL_law_1762 : decode cL_law 1762 = .ok (.pop, 1) := dLb_126.2.2.2.2.2.2.1
theorem dL_law_1763 : decode cL_law 1763 = .ok (.aload_n 2, 1) := dLb_126.2.2.2.2.2.2.2.1
theorem dL_law_1764 : decode cL_law 1764 = .ok (.aload_n 0, 1) := dLb_126.2.2.2.2.2.2.2.2.1
theorem dL_law_1765 : decode cL_law 1765 = .ok (.iload_n 3, 1) := dLb_126.2.2.2.2.2.2.2.2.2
theorem dLb_127 : (decode cL_law 1766 = .ok (.iconst 1, 1)) ∧ (decode cL_law 1767 = .ok (.iadd, 1)) ∧ (decode cL_law 1768 = .ok (.iaload, 1)) ∧ (decode cL_law 1769 = .ok (.aload_n 0, 1)) ∧ (decode cL_law 1770 = .ok (.iload_n 3, 1)) ∧ (decode cL_law 1771 = .ok (.iconst 2, 1)) ∧ (decode cL_law 1772 = .ok (.iadd, 1)) ∧ (decode cL_law 1773 = .ok (.iaload, 1)) ∧ (decode cL_law 1774 = .ok (.invokevirtual 209, 3)) ∧ (decode cL_law 1777 = .ok (.pop, 1)) := by decide +kernel
theorem dL_law_1766 : decode cL_law 1766 = .ok (.iconst 1, 1) := dLb_127.1
theorem dL_law_1767 : decode cL_law 1767 = .ok (.iadd, 1) := dLb_127.2.1
theorem dL_law_1768 : decode cL_law 1768 = .ok (.iaload, 1) := dLb_127.2.2.1
theorem dL_law_1769 : decode cL_law 1769 = .ok (.aload_n 0, 1) := dLb_127.2.2.2.1
theorem dL_law_1770 : decode cL_law 1770 = .ok (.iload_n 3, 1) := dLb_127.2.2.2.2.1
theorem dL_law_1771 : decode cL_law 1771 = .ok (.iconst 2, 1) := dLb_127.2.2.2.2.2.1
theorem dL_law_1772 : decode cL_law 1772 = .ok (.iadd, 1) := dLb_127.2.2.2.2.2.2.1
theorem dL_law_1773 : decode cL_law 1773 = .ok (.iaload, 1) := dLb_127.2.2.2.2.2.2.2.1
theorem dL_law_1774 : decode cL_law 1774 = .ok (.invokevirtual 209, 3) := dLb_127.2.2.2.2.2.2.2.2.1
theorem dL_law_1777 : decode cL_law 1777 = .ok (.pop, 1) := dLb_127.2.2.2.2.2.2.2.2.2
theorem dLb_128 : (decode cL_law 1778 = .ok (.goto 26, 3)) ∧ (decode cL_law 1781 = .ok (.aload_n 1, 1)) ∧ (decode cL_law 1782 = .ok (.aload_n 0, 1)) ∧ (decode cL_law 1783 = .ok (.iload_n 3, 1)) ∧ (decode cL_law 1784 = .ok (.iconst 1, 1)) ∧ (decode cL_law 1785 = .ok (.iadd, 1)) ∧ (decode cL_law 1786 = .ok (.iaload, 1)) ∧ (decode cL_law 1787 = .ok (.invokevirtual 210, 3)) ∧ (decode cL_law 1790 = .ok (.pop, 1)) ∧ (decode cL_law 1791 = .ok (.aload_n 2, 1)) := by decide +kernel
theorem dL_law_1778 : decode cL_law 1778 = .ok (.goto 26, 3) := dLb_128.1
theorem dL_law_1781 : decode cL_law 1781 = .ok (.aload_n 1, 1) := dLb_128.2.1
theorem dL_law_1782 : decode cL_law 1782 = .ok (.aload_n 0, 1) := dLb_128.2.2.1
theorem dL_law_1783 : decode cL_law 1783 = .ok (.iload_n 3, 1) := dLb_128.2.2.2.1
theorem dL_law_1784 : decode cL_law 1784 = .ok (.iconst 1, 1) := dLb_128.2.2.2.2.1
theorem dL_law_1785 : decode cL_law 1785 = .ok (.iadd, 1) := dLb_128.2.2.2.2.2.1
theorem dL_law_1786 : decode cL_law 1786 = .ok (.iaload, 1) := dLb_128.2.2.2.2.2.2.1
theorem dL_law_1787 : decode cL_law 1787 = .ok (.invokevirtual 210, 3) := dLb_128.2.2.2.2.2.2.2.1
theorem dL_law_1790 : decode cL_law 1790 = .ok (.pop, 1) := dLb_128.2.2.2.2.2.2.2.2.1
theorem dL_law_1791 : decode cL_law 1791 = .ok (.aload_n 2, 1) := dLb_128.2.2.2.2.2.2.2.2.2
theorem dLb_129 : (decode cL_law 1792 = .ok (.aload_n 0, 1)) ∧ (decode cL_law 1793 = .ok (.iload_n 3, 1)) ∧ (decode cL_law 1794 = .ok (.iconst 1, 1)) ∧ (decode cL_law 1795 = .ok (.iadd, 1)) ∧ (decode cL_law 1796 = .ok (.iaload, 1)) ∧ (decode cL_law 1797 = .ok (.invokevirtual 213, 3)) ∧ (decode cL_law 1800 = .ok (.pop, 1)) ∧ (decode cL_law 1801 = .ok (.goto 3, 3)) ∧ (decode cL_law 1804 = .ok (.iinc 3 6, 3)) ∧ (decode cL_law 1807 = .ok (.goto (-1789), 3)) := by decide +kernel
theorem dL_law_1792 : decode cL_law 1792 = .ok (.aload_n 0, 1) := dLb_129.1
theorem dL_law_1793 : decode cL_law 1793 = .ok (.iload_n 3, 1) := dLb_129.2.1
theorem dL_law_1794 : decode cL_law 1794 = .ok (.iconst 1, 1) := dLb_129.2.2.1
theorem dL_law_1795 : decode cL_law 1795 = .ok (.iadd, 1) := dLb_129.2.2.2.1
theorem dL_law_1796 : decode cL_law 1796 = .ok (.iaload, 1) := dLb_129.2.2.2.2.1
theorem dL_law_1797 : decode cL_law 1797 = .ok (.invokevirtual 213, 3) := dLb_129.2.2.2.2.2.1
theorem dL_law_1800 : decode cL_law 1800 = .ok (.pop, 1) := dLb_129.2.2.2.2.2.2.1
theorem dL_law_1801 : decode cL_law 1801 = .ok (.goto 3, 3) := dLb_129.2.2.2.2.2.2.2.1
theorem dL_law_1804 : decode cL_law 1804 = .ok (.iinc 3 6, 3) := dLb_129.2.2.2.2.2.2.2.2.1
theorem dL_law_1807 : decode cL_law 1807 = .ok (.goto (-1789), 3) := dLb_129.2.2.2.2.2.2.2.2.2
theorem dLb_130 : (decode cL_law 1810 = .ok (.iconst 1, 1)) ∧ (decode cL_law 1811 = .ok (.ireturn, 1)) := by decide +kernel
theorem dL_law_1810 : decode cL_law 1810 = .ok (.iconst 1, 1) := dLb_130.1
theorem dL_law_1811 : decode cL_law 1811 = .ok (.ireturn, 1) := dLb_130.2
