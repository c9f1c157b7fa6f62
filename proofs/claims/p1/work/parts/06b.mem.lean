set_option maxRecDepth 100000 in
theorem m_250 : (.selects RX8 yX8_valueOf yX8_valueOf : Cond) ∈ jw := jin (jt_3 _ (List.mem_of_getElem? (i := 239) rfl)) rfl
set_option maxRecDepth 100000 in
theorem m_251 : (.code yX8_valueOf cX8_valueOf 6 (some .int) : Cond) ∈ jw := jin (jt_4 _ (List.mem_of_getElem? (i := 0) rfl)) rfl
set_option maxRecDepth 100000 in
theorem m_252 : (.fieldLink RX6 32 "BookOfAll$Order" "blanksCount" "Z" : Cond) ∈ jw := jin (jt_1 _ (List.mem_of_getElem? (i := 133) rfl)) rfl
set_option maxRecDepth 100000 in
theorem m_253 : (.fieldLink RX6 35 "BookOfAll$Order" "numbersFirst" "Z" : Cond) ∈ jw := jin (jt_1 _ (List.mem_of_getElem? (i := 134) rfl)) rfl
set_option maxRecDepth 100000 in
theorem m_254 : (.methodLink RX12 212 yX6_take : Cond) ∈ jw := jin (jt_3 _ (List.mem_of_getElem? (i := 233) rfl)) rfl
set_option maxRecDepth 100000 in
theorem m_255 : (.instanceMethod yX6_take : Cond) ∈ jw := jin (jt_3 _ (List.mem_of_getElem? (i := 234) rfl)) rfl
set_option maxRecDepth 100000 in
theorem m_256 : (.selects RX6 yX6_take yX6_take : Cond) ∈ jw := jin (jt_3 _ (List.mem_of_getElem? (i := 235) rfl)) rfl
set_option maxRecDepth 100000 in
theorem m_257 : (.initialized RX6 : Cond) ∈ jw := jin (jt_1 _ (List.mem_of_getElem? (i := 4) rfl)) rfl
set_option maxRecDepth 100000 in
theorem m_258 : (.code yX6_take cX6_take 3 none : Cond) ∈ jw := jin (jt_3 _ (List.mem_of_getElem? (i := 236) rfl)) rfl
set_option maxRecDepth 100000 in
theorem m_259 : (.fieldLink RX12 203 "BookOfAll" "entryCount" "I" : Cond) ∈ jw := jin (jt_2 _ (List.mem_of_getElem? (i := 92) rfl)) rfl
set_option maxRecDepth 100000 in
theorem m_260 : (.methodLink RX12 140 yX12_sortIntoVolumes : Cond) ∈ jw := jin (jt_3 _ (List.mem_of_getElem? (i := 229) rfl)) rfl
set_option maxRecDepth 100000 in
theorem m_261 : (.instanceMethod yX12_sortIntoVolumes : Cond) ∈ jw := jin (jt_3 _ (List.mem_of_getElem? (i := 231) rfl)) rfl
set_option maxRecDepth 100000 in
theorem m_262 : (.selects RX12 yX12_sortIntoVolumes yX12_sortIntoVolumes : Cond) ∈ jw := jin (jt_p _ (List.mem_of_getElem? (i := 28) rfl)) rfl
set_option maxRecDepth 100000 in
theorem m_263 : (.code yX12_sortIntoVolumes cX12_sortIntoVolumes 3 none : Cond) ∈ jw := jin (jt_3 _ (List.mem_of_getElem? (i := 232) rfl)) rfl
set_option maxRecDepth 100000 in
theorem m_264 : (.methodLink RX12 200 yX0_headingSize : Cond) ∈ jw := jin (jt_4 _ (List.mem_of_getElem? (i := 88) rfl)) rfl
set_option maxRecDepth 100000 in
theorem m_265 : (.static yX0_headingSize : Cond) ∈ jw := jin (jt_4 _ (List.mem_of_getElem? (i := 89) rfl)) rfl
set_option maxRecDepth 100000 in
theorem m_266 : (.code yX0_headingSize cX0_headingSize 8 (some .int) : Cond) ∈ jw := jin (jt_4 _ (List.mem_of_getElem? (i := 90) rfl)) rfl
set_option maxRecDepth 100000 in
theorem m_267 : (.classLink RX12 41 RX0 : Cond) ∈ jw := jin (jt_1 _ (List.mem_of_getElem? (i := 186) rfl)) rfl
set_option maxRecDepth 100000 in
theorem m_268 : (.instantiable RX0 18 : Cond) ∈ jw := jin (jt_4 _ (List.mem_of_getElem? (i := 98) rfl)) rfl
set_option maxRecDepth 100000 in
theorem m_269 : (.methodLink RX0 3 objectInit : Cond) ∈ jw := jin (jt_4 _ (List.mem_of_getElem? (i := 102) rfl)) rfl
set_option maxRecDepth 100000 in
theorem m_270 : (.fieldLink RX0 9 "BookOfAll$Entry" "to" "I" : Cond) ∈ jw := jin (jt_4 _ (List.mem_of_getElem? (i := 121) rfl)) rfl
set_option maxRecDepth 100000 in
theorem m_271 : (.fieldLink RX0 15 "BookOfAll$Entry" "setWith" "I" : Cond) ∈ jw := jin (jt_4 _ (List.mem_of_getElem? (i := 125) rfl)) rfl
set_option maxRecDepth 100000 in
theorem m_272 : (.fieldLink RX0 18 "BookOfAll$Entry" "begins" "I" : Cond) ∈ jw := jin (jt_4 _ (List.mem_of_getElem? (i := 127) rfl)) rfl
set_option maxRecDepth 100000 in
theorem m_273 : (.fieldLink RX0 21 "BookOfAll$Entry" "hand" "I" : Cond) ∈ jw := jin (jt_4 _ (List.mem_of_getElem? (i := 129) rfl)) rfl
set_option maxRecDepth 100000 in
theorem m_274 : (.fieldLink RX0 24 "BookOfAll$Entry" "number" "I" : Cond) ∈ jw := jin (jt_4 _ (List.mem_of_getElem? (i := 104) rfl)) rfl
set_option maxRecDepth 100000 in
theorem m_275 : (.fieldLink RX0 27 "BookOfAll$Entry" "kind" "I" : Cond) ∈ jw := jin (jt_4 _ (List.mem_of_getElem? (i := 107) rfl)) rfl
set_option maxRecDepth 100000 in
theorem m_276 : (.methodLink RX0 30 Lib.Math.max.name : Cond) ∈ jw := jin (jt_4 _ (List.mem_of_getElem? (i := 103) rfl)) rfl
set_option maxRecDepth 100000 in
theorem m_277 : (.code yX0_init cX0_init 4 none : Cond) ∈ jw := jin (jt_4 _ (List.mem_of_getElem? (i := 101) rfl)) rfl
set_option maxRecDepth 100000 in
theorem m_278 : (.methodLink RX12 206 yX0_init : Cond) ∈ jw := jin (jt_4 _ (List.mem_of_getElem? (i := 99) rfl)) rfl
set_option maxRecDepth 100000 in
theorem m_279 : (.instanceMethod yX0_init : Cond) ∈ jw := jin (jt_4 _ (List.mem_of_getElem? (i := 100) rfl)) rfl
set_option maxRecDepth 100000 in
theorem m_280 : (.methodLink RX12 209 yX0_readHeading : Cond) ∈ jw := jin (jt_4 _ (List.mem_of_getElem? (i := 172) rfl)) rfl
set_option maxRecDepth 100000 in
theorem m_281 : (.instanceMethod yX0_readHeading : Cond) ∈ jw := jin (jt_4 _ (List.mem_of_getElem? (i := 173) rfl)) rfl
set_option maxRecDepth 100000 in
theorem m_282 : (.selects RX0 yX0_readHeading yX0_readHeading : Cond) ∈ jw := jin (jt_4 _ (List.mem_of_getElem? (i := 174) rfl)) rfl
set_option maxRecDepth 100000 in
theorem m_283 : (.code yX0_readHeading cX0_readHeading 5 none : Cond) ∈ jw := jin (jt_4 _ (List.mem_of_getElem? (i := 175) rfl)) rfl
set_option maxRecDepth 100000 in
theorem m_284 : (.fieldLink RX12 43 "BookOfAll" "entries" "[LBookOfAll$Entry;" : Cond) ∈ jw := jin (jt_2 _ (List.mem_of_getElem? (i := 91) rfl)) rfl
set_option maxRecDepth 100000 in
theorem m_285 : (.fieldLink RX6 38 "BookOfAll$Entry" "secondWord" "I" : Cond) ∈ jw := jin (jt_4 _ (List.mem_of_getElem? (i := 112) rfl)) rfl
set_option maxRecDepth 100000 in
theorem m_286 : (.fieldLink RX6 50 "BookOfAll$Entry" "keyStart" "I" : Cond) ∈ jw := jin (jt_4 _ (List.mem_of_getElem? (i := 114) rfl)) rfl
set_option maxRecDepth 100000 in
theorem m_287 : (.fieldLink RX6 43 "BookOfAll$Entry" "firstWord" "J" : Cond) ∈ jw := jin (jt_4 _ (List.mem_of_getElem? (i := 110) rfl)) rfl
set_option maxRecDepth 100000 in
theorem m_288 : (.methodLink RX6 47 yX8_skips : Cond) ∈ jw := jin (jt_4 _ (List.mem_of_getElem? (i := 42) rfl)) rfl
set_option maxRecDepth 100000 in
theorem m_289 : (.instanceMethod yX8_skips : Cond) ∈ jw := jin (jt_4 _ (List.mem_of_getElem? (i := 43) rfl)) rfl
set_option maxRecDepth 100000 in
theorem m_290 : (.selects RX8 yX8_skips yX8_skips : Cond) ∈ jw := jin (jt_4 _ (List.mem_of_getElem? (i := 44) rfl)) rfl
set_option maxRecDepth 100000 in
theorem m_291 : (.code yX8_skips cX8_skips 7 (some .boolean) : Cond) ∈ jw := jin (jt_4 _ (List.mem_of_getElem? (i := 45) rfl)) rfl
set_option maxRecDepth 100000 in
theorem m_292 : (.methodLink RX12 223 yX6_prepare : Cond) ∈ jw := jin (jt_4 _ (List.mem_of_getElem? (i := 38) rfl)) rfl
set_option maxRecDepth 100000 in
theorem m_293 : (.instanceMethod yX6_prepare : Cond) ∈ jw := jin (jt_4 _ (List.mem_of_getElem? (i := 39) rfl)) rfl
set_option maxRecDepth 100000 in
theorem m_294 : (.selects RX6 yX6_prepare yX6_prepare : Cond) ∈ jw := jin (jt_4 _ (List.mem_of_getElem? (i := 40) rfl)) rfl
set_option maxRecDepth 100000 in
theorem m_295 : (.code yX6_prepare cX6_prepare 3 none : Cond) ∈ jw := jin (jt_4 _ (List.mem_of_getElem? (i := 41) rfl)) rfl
set_option maxRecDepth 100000 in
theorem m_296 : (.fieldLink RX12 227 "BookOfAll$Entry" "keyStart" "I" : Cond) ∈ jw := jin (jt_4 _ (List.mem_of_getElem? (i := 115) rfl)) rfl
set_option maxRecDepth 100000 in
theorem m_297 : (.methodLink RX12 230 yX0_byteAt : Cond) ∈ jw := jin (jt_4 _ (List.mem_of_getElem? (i := 50) rfl)) rfl
set_option maxRecDepth 100000 in
theorem m_298 : (.instanceMethod yX0_byteAt : Cond) ∈ jw := jin (jt_4 _ (List.mem_of_getElem? (i := 51) rfl)) rfl
set_option maxRecDepth 100000 in
theorem m_299 : (.selects RX0 yX0_byteAt yX0_byteAt : Cond) ∈ jw := jin (jt_4 _ (List.mem_of_getElem? (i := 52) rfl)) rfl
set_option maxRecDepth 100000 in
theorem m_300 : (.code yX0_byteAt cX0_byteAt 2 (some .int) : Cond) ∈ jw := jin (jt_4 _ (List.mem_of_getElem? (i := 53) rfl)) rfl
set_option maxRecDepth 100000 in
theorem m_301 : (.methodLink RX12 233 yX0_isDigit : Cond) ∈ jw := jin (jt_4 _ (List.mem_of_getElem? (i := 54) rfl)) rfl
set_option maxRecDepth 100000 in
theorem m_302 : (.fieldLink RX12 236 "BookOfAll$Order" "numbersFirst" "Z" : Cond) ∈ jw := jin (jt_1 _ (List.mem_of_getElem? (i := 135) rfl)) rfl
set_option maxRecDepth 100000 in
theorem m_303 : (.methodLink RX12 216 yX12_volumeByKey : Cond) ∈ jw := jin (jt_4 _ (List.mem_of_getElem? (i := 34) rfl)) rfl
set_option maxRecDepth 100000 in
theorem m_304 : (.instanceMethod yX12_volumeByKey : Cond) ∈ jw := jin (jt_4 _ (List.mem_of_getElem? (i := 36) rfl)) rfl
set_option maxRecDepth 100000 in
theorem m_305 : (.selects RX12 yX12_volumeByKey yX12_volumeByKey : Cond) ∈ jw := jin (jt_p _ (List.mem_of_getElem? (i := 32) rfl)) rfl
set_option maxRecDepth 100000 in
theorem m_306 : (.code yX12_volumeByKey cX12_volumeByKey 5 (some .int) : Cond) ∈ jw := jin (jt_4 _ (List.mem_of_getElem? (i := 37) rfl)) rfl
set_option maxRecDepth 100000 in
theorem m_307 : (.fieldLink RX12 220 "BookOfAll$Entry" "keyVolume" "I" : Cond) ∈ jw := jin (jt_4 _ (List.mem_of_getElem? (i := 116) rfl)) rfl
set_option maxRecDepth 100000 in
theorem m_308 : (.methodLink RX12 173 yX12_newEntry : Cond) ∈ jw := jin (jt_4 _ (List.mem_of_getElem? (i := 84) rfl)) rfl
set_option maxRecDepth 100000 in
theorem m_309 : (.instanceMethod yX12_newEntry : Cond) ∈ jw := jin (jt_4 _ (List.mem_of_getElem? (i := 86) rfl)) rfl
set_option maxRecDepth 100000 in
theorem m_310 : (.selects RX12 yX12_newEntry yX12_newEntry : Cond) ∈ jw := jin (jt_p _ (List.mem_of_getElem? (i := 35) rfl)) rfl
set_option maxRecDepth 100000 in
theorem m_311 : (.code yX12_newEntry cX12_newEntry 7 (some (.object "BookOfAll$Entry")) : Cond) ∈ jw := jin (jt_4 _ (List.mem_of_getElem? (i := 87) rfl)) rfl
set_option maxRecDepth 100000 in
theorem m_312 : (.fieldLink RX12 177 "BookOfAll$Entry" "k" "I" : Cond) ∈ jw := jin (jt_4 _ (List.mem_of_getElem? (i := 117) rfl)) rfl
set_option maxRecDepth 100000 in
theorem m_313 : (.fieldLink RX12 180 "BookOfAll$Entry" "field" "I" : Cond) ∈ jw := jin (jt_4 _ (List.mem_of_getElem? (i := 118) rfl)) rfl
set_option maxRecDepth 100000 in
theorem m_314 : (.fieldLink RX12 183 "BookOfAll$Entry" "asked" "I" : Cond) ∈ jw := jin (jt_4 _ (List.mem_of_getElem? (i := 120) rfl)) rfl
set_option maxRecDepth 100000 in
theorem m_315 : (.fieldLink RX12 186 "BookOfAll$Entry" "number" "I" : Cond) ∈ jw := jin (jt_4 _ (List.mem_of_getElem? (i := 106) rfl)) rfl
set_option maxRecDepth 100000 in
theorem m_316 : (.methodLink RX12 189 yX12_entryAt : Cond) ∈ jw := jin (jt_4 _ (List.mem_of_getElem? (i := 30) rfl)) rfl
set_option maxRecDepth 100000 in
theorem m_317 : (.instanceMethod yX12_entryAt : Cond) ∈ jw := jin (jt_4 _ (List.mem_of_getElem? (i := 32) rfl)) rfl
set_option maxRecDepth 100000 in
theorem m_318 : (.selects RX12 yX12_entryAt yX12_entryAt : Cond) ∈ jw := jin (jt_p _ (List.mem_of_getElem? (i := 31) rfl)) rfl
set_option maxRecDepth 100000 in
theorem m_319 : (.code yX12_entryAt cX12_entryAt 2 (some (.object "BookOfAll$Entry")) : Cond) ∈ jw := jin (jt_4 _ (List.mem_of_getElem? (i := 33) rfl)) rfl
set_option maxRecDepth 100000 in
theorem m_320 : (.methodLink RX12 196 yX12_areEntries : Cond) ∈ jw := jin (jt_4 _ (List.mem_of_getElem? (i := 184) rfl)) rfl
set_option maxRecDepth 100000 in
theorem m_321 : (.instanceMethod yX12_areEntries : Cond) ∈ jw := jin (jt_4 _ (List.mem_of_getElem? (i := 186) rfl)) rfl
set_option maxRecDepth 100000 in
theorem m_322 : (.selects RX12 yX12_areEntries yX12_areEntries : Cond) ∈ jw := jin (jt_p _ (List.mem_of_getElem? (i := 36) rfl)) rfl
set_option maxRecDepth 100000 in
theorem m_323 : (.code yX12_areEntries cX12_areEntries 8 (some .boolean) : Cond) ∈ jw := jin (jt_4 _ (List.mem_of_getElem? (i := 187) rfl)) rfl
set_option maxRecDepth 100000 in
theorem m_324 : (.methodLink RX12 243 yX12_entryOfKind : Cond) ∈ jw := jin (jt_4 _ (List.mem_of_getElem? (i := 192) rfl)) rfl
set_option maxRecDepth 100000 in
theorem m_325 : (.instanceMethod yX12_entryOfKind : Cond) ∈ jw := jin (jt_4 _ (List.mem_of_getElem? (i := 194) rfl)) rfl
set_option maxRecDepth 100000 in
theorem m_326 : (.selects RX12 yX12_entryOfKind yX12_entryOfKind : Cond) ∈ jw := jin (jt_p _ (List.mem_of_getElem? (i := 37) rfl)) rfl
set_option maxRecDepth 100000 in
theorem m_327 : (.code yX12_entryOfKind cX12_entryOfKind 4 (some (.object "BookOfAll$Entry")) : Cond) ∈ jw := jin (jt_4 _ (List.mem_of_getElem? (i := 195) rfl)) rfl
set_option maxRecDepth 100000 in
theorem m_328 : (.methodLink RX12 250 yX12_sendAway : Cond) ∈ jw := jin (jt_4 _ (List.mem_of_getElem? (i := 200) rfl)) rfl
set_option maxRecDepth 100000 in
theorem m_329 : (.instanceMethod yX12_sendAway : Cond) ∈ jw := jin (jt_4 _ (List.mem_of_getElem? (i := 202) rfl)) rfl
set_option maxRecDepth 100000 in
theorem m_330 : (.selects RX12 yX12_sendAway yX12_sendAway : Cond) ∈ jw := jin (jt_p _ (List.mem_of_getElem? (i := 38) rfl)) rfl
set_option maxRecDepth 100000 in
theorem m_331 : (.code yX12_sendAway cX12_sendAway 4 (some .boolean) : Cond) ∈ jw := jin (jt_4 _ (List.mem_of_getElem? (i := 203) rfl)) rfl
set_option maxRecDepth 100000 in
theorem m_332 : (.fieldLink RX12 170 "BookOfAll$Volume" "setDay" "I" : Cond) ∈ jw := jin (jt_1 _ (List.mem_of_getElem? (i := 162) rfl)) rfl
set_option maxRecDepth 100000 in
theorem m_333 : (.fieldLink RX12 268 "BookOfAll" "rowSize" "I" : Cond) ∈ jw := jin (jt_2 _ (List.mem_of_getElem? (i := 94) rfl)) rfl
set_option maxRecDepth 100000 in
theorem m_334 : (.methodLink RX12 265 yX12_arrange : Cond) ∈ jw := jin (jt_4 _ (List.mem_of_getElem? (i := 224) rfl)) rfl
set_option maxRecDepth 100000 in
theorem m_335 : (.instanceMethod yX12_arrange : Cond) ∈ jw := jin (jt_4 _ (List.mem_of_getElem? (i := 226) rfl)) rfl
set_option maxRecDepth 100000 in
theorem m_336 : (.selects RX12 yX12_arrange yX12_arrange : Cond) ∈ jw := jin (jt_p _ (List.mem_of_getElem? (i := 41) rfl)) rfl
set_option maxRecDepth 100000 in
theorem m_337 : (.code yX12_arrange cX12_arrange 4 none : Cond) ∈ jw := jin (jt_4 _ (List.mem_of_getElem? (i := 227) rfl)) rfl
set_option maxRecDepth 100000 in
theorem m_338 : (.constant RX12 291 (-40000) : Cond) ∈ jw := jin (jt_5 _ (List.mem_of_getElem? (i := 19) rfl)) rfl
set_option maxRecDepth 100000 in
theorem m_339 : (.fieldLink RX12 292 "BookOfAll" "handCount" "I" : Cond) ∈ jw := jin (jt_2 _ (List.mem_of_getElem? (i := 96) rfl)) rfl
set_option maxRecDepth 100000 in
theorem m_340 : (.fieldLink RX12 53 "BookOfAll" "hands" "[LBookOfAll$Hand;" : Cond) ∈ jw := jin (jt_2 _ (List.mem_of_getElem? (i := 95) rfl)) rfl
set_option maxRecDepth 100000 in
theorem m_341 : (.classLink RX12 51 RX2 : Cond) ∈ jw := jin (jt_1 _ (List.mem_of_getElem? (i := 188) rfl)) rfl
set_option maxRecDepth 100000 in
theorem m_342 : (.instantiable RX2 6 : Cond) ∈ jw := jin (jt_5 _ (List.mem_of_getElem? (i := 20) rfl)) rfl
set_option maxRecDepth 100000 in
theorem m_343 : (.initialized RX2 : Cond) ∈ jw := jin (jt_1 _ (List.mem_of_getElem? (i := 21) rfl)) rfl
set_option maxRecDepth 100000 in
theorem m_344 : (.methodLink RX2 1 objectInit : Cond) ∈ jw := jin (jt_5 _ (List.mem_of_getElem? (i := 24) rfl)) rfl
set_option maxRecDepth 100000 in
theorem m_345 : (.fieldLink RX2 7 "BookOfAll$Hand" "lives" "Z" : Cond) ∈ jw := jin (jt_5 _ (List.mem_of_getElem? (i := 31) rfl)) rfl
set_option maxRecDepth 100000 in
theorem m_346 : (.fieldLink RX2 13 "BookOfAll$Hand" "fields" "I" : Cond) ∈ jw := jin (jt_5 _ (List.mem_of_getElem? (i := 25) rfl)) rfl
set_option maxRecDepth 100000 in
theorem m_347 : (.fieldLink RX2 17 "BookOfAll$Hand" "skill" "I" : Cond) ∈ jw := jin (jt_5 _ (List.mem_of_getElem? (i := 27) rfl)) rfl
set_option maxRecDepth 100000 in
theorem m_348 : (.fieldLink RX2 20 "BookOfAll$Hand" "born" "I" : Cond) ∈ jw := jin (jt_5 _ (List.mem_of_getElem? (i := 29) rfl)) rfl
set_option maxRecDepth 100000 in
theorem m_349 : (.code yX2_init cX2_init 4 none : Cond) ∈ jw := jin (jt_5 _ (List.mem_of_getElem? (i := 23) rfl)) rfl
set_option maxRecDepth 100000 in
theorem m_350 : (.methodLink RX12 295 yX2_init : Cond) ∈ jw := jin (jt_5 _ (List.mem_of_getElem? (i := 21) rfl)) rfl
set_option maxRecDepth 100000 in
theorem m_351 : (.instanceMethod yX2_init : Cond) ∈ jw := jin (jt_5 _ (List.mem_of_getElem? (i := 22) rfl)) rfl
set_option maxRecDepth 100000 in
theorem m_352 : (.methodLink RX12 296 yX12_handAt : Cond) ∈ jw := jin (jt_5 _ (List.mem_of_getElem? (i := 52) rfl)) rfl
set_option maxRecDepth 100000 in
theorem m_353 : (.instanceMethod yX12_handAt : Cond) ∈ jw := jin (jt_5 _ (List.mem_of_getElem? (i := 54) rfl)) rfl
set_option maxRecDepth 100000 in
theorem m_354 : (.selects RX12 yX12_handAt yX12_handAt : Cond) ∈ jw := jin (jt_p _ (List.mem_of_getElem? (i := 44) rfl)) rfl
set_option maxRecDepth 100000 in
theorem m_355 : (.code yX12_handAt cX12_handAt 2 (some (.object "BookOfAll$Hand")) : Cond) ∈ jw := jin (jt_5 _ (List.mem_of_getElem? (i := 55) rfl)) rfl
set_option maxRecDepth 100000 in
theorem m_356 : (.methodLink RX12 316 yX12_livingHandAt : Cond) ∈ jw := jin (jt_5 _ (List.mem_of_getElem? (i := 68) rfl)) rfl
set_option maxRecDepth 100000 in
theorem m_357 : (.instanceMethod yX12_livingHandAt : Cond) ∈ jw := jin (jt_5 _ (List.mem_of_getElem? (i := 70) rfl)) rfl
set_option maxRecDepth 100000 in
theorem m_358 : (.selects RX12 yX12_livingHandAt yX12_livingHandAt : Cond) ∈ jw := jin (jt_p _ (List.mem_of_getElem? (i := 46) rfl)) rfl
set_option maxRecDepth 100000 in
theorem m_359 : (.code yX12_livingHandAt cX12_livingHandAt 3 (some (.object "BookOfAll$Hand")) : Cond) ∈ jw := jin (jt_5 _ (List.mem_of_getElem? (i := 71) rfl)) rfl
set_option maxRecDepth 100000 in
theorem m_360 : (.fieldLink RX12 66 "BookOfAll" "news" "LBookOfAll$News;" : Cond) ∈ jw := jin (jt_2 _ (List.mem_of_getElem? (i := 99) rfl)) rfl
set_option maxRecDepth 100000 in
theorem m_361 : (.fieldLink RX5 49 "BookOfAll$News" "tells" "I" : Cond) ∈ jw := jin (jt_1 _ (List.mem_of_getElem? (i := 206) rfl)) rfl
set_option maxRecDepth 100000 in
theorem m_362 : (.fieldLink RX5 15 "BookOfAll$News" "value" "[I" : Cond) ∈ jw := jin (jt_1 _ (List.mem_of_getElem? (i := 202) rfl)) rfl
set_option maxRecDepth 100000 in
theorem m_363 : (.fieldLink RX5 18 "BookOfAll$News" "source" "[I" : Cond) ∈ jw := jin (jt_1 _ (List.mem_of_getElem? (i := 203) rfl)) rfl
set_option maxRecDepth 100000 in
theorem m_364 : (.fieldLink RX5 21 "BookOfAll$News" "day" "[I" : Cond) ∈ jw := jin (jt_1 _ (List.mem_of_getElem? (i := 204) rfl)) rfl
set_option maxRecDepth 100000 in
theorem m_365 : (.fieldLink RX5 24 "BookOfAll$News" "earlier" "[I" : Cond) ∈ jw := jin (jt_1 _ (List.mem_of_getElem? (i := 205) rfl)) rfl
set_option maxRecDepth 100000 in
theorem m_366 : (.fieldLink RX5 11 "BookOfAll$News" "latest" "[I" : Cond) ∈ jw := jin (jt_1 _ (List.mem_of_getElem? (i := 201) rfl)) rfl
set_option maxRecDepth 100000 in
theorem m_367 : (.methodLink RX12 408 yX5_addFact : Cond) ∈ jw := jin (jt_5 _ (List.mem_of_getElem? (i := 189) rfl)) rfl
set_option maxRecDepth 100000 in
theorem m_368 : (.instanceMethod yX5_addFact : Cond) ∈ jw := jin (jt_5 _ (List.mem_of_getElem? (i := 190) rfl)) rfl
set_option maxRecDepth 100000 in
theorem m_369 : (.selects RX5 yX5_addFact yX5_addFact : Cond) ∈ jw := jin (jt_5 _ (List.mem_of_getElem? (i := 191) rfl)) rfl
set_option maxRecDepth 100000 in
theorem m_370 : (.initialized RX5 : Cond) ∈ jw := jin (jt_1 _ (List.mem_of_getElem? (i := 7) rfl)) rfl
set_option maxRecDepth 100000 in
theorem m_371 : (.code yX5_addFact cX5_addFact 5 (some .boolean) : Cond) ∈ jw := jin (jt_5 _ (List.mem_of_getElem? (i := 192) rfl)) rfl
set_option maxRecDepth 100000 in
theorem m_372 : (.methodLink RX5 53 yX5_tellOn : Cond) ∈ jw := jin (jt_5 _ (List.mem_of_getElem? (i := 119) rfl)) rfl
set_option maxRecDepth 100000 in
theorem m_373 : (.instanceMethod yX5_tellOn : Cond) ∈ jw := jin (jt_5 _ (List.mem_of_getElem? (i := 121) rfl)) rfl
set_option maxRecDepth 100000 in
theorem m_374 : (.selects RX5 yX5_tellOn yX5_tellOn : Cond) ∈ jw := jin (jt_p _ (List.mem_of_getElem? (i := 53) rfl)) rfl
set_option maxRecDepth 100000 in
theorem m_375 : (.code yX5_tellOn cX5_tellOn 5 (some .int) : Cond) ∈ jw := jin (jt_5 _ (List.mem_of_getElem? (i := 122) rfl)) rfl
set_option maxRecDepth 100000 in
theorem m_376 : (.methodLink RX12 412 yX5_sourceOn : Cond) ∈ jw := jin (jt_5 _ (List.mem_of_getElem? (i := 197) rfl)) rfl
set_option maxRecDepth 100000 in
theorem m_377 : (.instanceMethod yX5_sourceOn : Cond) ∈ jw := jin (jt_5 _ (List.mem_of_getElem? (i := 198) rfl)) rfl
set_option maxRecDepth 100000 in
theorem m_378 : (.selects RX5 yX5_sourceOn yX5_sourceOn : Cond) ∈ jw := jin (jt_5 _ (List.mem_of_getElem? (i := 199) rfl)) rfl
set_option maxRecDepth 100000 in
theorem m_379 : (.code yX5_sourceOn cX5_sourceOn 4 (some .int) : Cond) ∈ jw := jin (jt_5 _ (List.mem_of_getElem? (i := 200) rfl)) rfl
set_option maxRecDepth 100000 in
theorem m_380 : (.methodLink RX12 389 yX5_valueOn : Cond) ∈ jw := jin (jt_5 _ (List.mem_of_getElem? (i := 115) rfl)) rfl
set_option maxRecDepth 100000 in
theorem m_381 : (.instanceMethod yX5_valueOn : Cond) ∈ jw := jin (jt_5 _ (List.mem_of_getElem? (i := 116) rfl)) rfl
set_option maxRecDepth 100000 in
theorem m_382 : (.selects RX5 yX5_valueOn yX5_valueOn : Cond) ∈ jw := jin (jt_5 _ (List.mem_of_getElem? (i := 117) rfl)) rfl
set_option maxRecDepth 100000 in
theorem m_383 : (.code yX5_valueOn cX5_valueOn 4 (some .int) : Cond) ∈ jw := jin (jt_5 _ (List.mem_of_getElem? (i := 118) rfl)) rfl
set_option maxRecDepth 100000 in
theorem m_384 : (.fieldLink RX12 370 "BookOfAll" "lineCount" "I" : Cond) ∈ jw := jin (jt_2 _ (List.mem_of_getElem? (i := 98) rfl)) rfl
set_option maxRecDepth 100000 in
theorem m_385 : (.methodLink RX12 392 yX12_lineAt : Cond) ∈ jw := jin (jt_5 _ (List.mem_of_getElem? (i := 123) rfl)) rfl
set_option maxRecDepth 100000 in
theorem m_386 : (.instanceMethod yX12_lineAt : Cond) ∈ jw := jin (jt_5 _ (List.mem_of_getElem? (i := 125) rfl)) rfl
set_option maxRecDepth 100000 in
theorem m_387 : (.selects RX12 yX12_lineAt yX12_lineAt : Cond) ∈ jw := jin (jt_p _ (List.mem_of_getElem? (i := 54) rfl)) rfl
set_option maxRecDepth 100000 in
theorem m_388 : (.code yX12_lineAt cX12_lineAt 2 (some (.object "BookOfAll$Line")) : Cond) ∈ jw := jin (jt_5 _ (List.mem_of_getElem? (i := 126) rfl)) rfl
set_option maxRecDepth 100000 in
theorem m_389 : (.fieldLink RX5 57 "BookOfAll$News" "errata" "I" : Cond) ∈ jw := jin (jt_1 _ (List.mem_of_getElem? (i := 212) rfl)) rfl
set_option maxRecDepth 100000 in
theorem m_390 : (.methodLink RX12 433 yX5_missedBy : Cond) ∈ jw := jin (jt_5 _ (List.mem_of_getElem? (i := 237) rfl)) rfl
set_option maxRecDepth 100000 in
theorem m_391 : (.instanceMethod yX5_missedBy : Cond) ∈ jw := jin (jt_5 _ (List.mem_of_getElem? (i := 238) rfl)) rfl
set_option maxRecDepth 100000 in
theorem m_392 : (.selects RX5 yX5_missedBy yX5_missedBy : Cond) ∈ jw := jin (jt_5 _ (List.mem_of_getElem? (i := 239) rfl)) rfl
set_option maxRecDepth 100000 in
theorem m_393 : (.code yX5_missedBy cX5_missedBy 2 (some .int) : Cond) ∈ jw := jin (jt_6 _ (List.mem_of_getElem? (i := 0) rfl)) rfl
set_option maxRecDepth 100000 in
theorem m_394 : (.methodLink RX12 443 yX12_rowMayBeSet : Cond) ∈ jw := jin (jt_6 _ (List.mem_of_getElem? (i := 13) rfl)) rfl
set_option maxRecDepth 100000 in
theorem m_395 : (.instanceMethod yX12_rowMayBeSet : Cond) ∈ jw := jin (jt_6 _ (List.mem_of_getElem? (i := 15) rfl)) rfl
set_option maxRecDepth 100000 in
theorem m_396 : (.selects RX12 yX12_rowMayBeSet yX12_rowMayBeSet : Cond) ∈ jw := jin (jt_p _ (List.mem_of_getElem? (i := 60) rfl)) rfl
set_option maxRecDepth 100000 in
theorem m_397 : (.code yX12_rowMayBeSet cX12_rowMayBeSet 3 (some .boolean) : Cond) ∈ jw := jin (jt_6 _ (List.mem_of_getElem? (i := 16) rfl)) rfl
set_option maxRecDepth 100000 in
theorem m_398 : (.methodLink RX12 455 yX12_linesInRow : Cond) ∈ jw := jin (jt_6 _ (List.mem_of_getElem? (i := 25) rfl)) rfl
set_option maxRecDepth 100000 in
theorem m_399 : (.instanceMethod yX12_linesInRow : Cond) ∈ jw := jin (jt_6 _ (List.mem_of_getElem? (i := 27) rfl)) rfl
set_option maxRecDepth 100000 in
theorem m_400 : (.selects RX12 yX12_linesInRow yX12_linesInRow : Cond) ∈ jw := jin (jt_p _ (List.mem_of_getElem? (i := 63) rfl)) rfl
set_option maxRecDepth 100000 in
theorem m_401 : (.code yX12_linesInRow cX12_linesInRow 4 (some .int) : Cond) ∈ jw := jin (jt_6 _ (List.mem_of_getElem? (i := 28) rfl)) rfl
set_option maxRecDepth 100000 in
theorem m_402 : (.fieldLink RX12 458 "BookOfAll$Volume" "laid" "[I" : Cond) ∈ jw := jin (jt_1 _ (List.mem_of_getElem? (i := 166) rfl)) rfl
set_option maxRecDepth 100000 in
theorem m_403 : (.fieldLink RX12 47 "BookOfAll" "row" "[I" : Cond) ∈ jw := jin (jt_2 _ (List.mem_of_getElem? (i := 93) rfl)) rfl
set_option maxRecDepth 100000 in
theorem m_404 : (.methodLink RX12 379 Lib.Math.max.name : Cond) ∈ jw := jin (jt_5 _ (List.mem_of_getElem? (i := 172) rfl)) rfl
set_option maxRecDepth 100000 in
theorem m_405 : (.methodLink RX12 461 yJ7_copyOf_59c91 : Cond) ∈ jw := jin (jt_6 _ (List.mem_of_getElem? (i := 29) rfl)) rfl
set_option maxRecDepth 100000 in
theorem m_406 : (.fieldLink RX12 263 "BookOfAll$Volume" "order" "[I" : Cond) ∈ jw := jin (jt_1 _ (List.mem_of_getElem? (i := 164) rfl)) rfl
set_option maxRecDepth 100000 in
theorem m_407 : (.methodLink RX12 446 yX12_lay : Cond) ∈ jw := jin (jt_6 _ (List.mem_of_getElem? (i := 21) rfl)) rfl
set_option maxRecDepth 100000 in
theorem m_408 : (.instanceMethod yX12_lay : Cond) ∈ jw := jin (jt_6 _ (List.mem_of_getElem? (i := 23) rfl)) rfl
set_option maxRecDepth 100000 in
theorem m_409 : (.selects RX12 yX12_lay yX12_lay : Cond) ∈ jw := jin (jt_p _ (List.mem_of_getElem? (i := 62) rfl)) rfl
set_option maxRecDepth 100000 in
theorem m_410 : (.code yX12_lay cX12_lay 5 none : Cond) ∈ jw := jin (jt_6 _ (List.mem_of_getElem? (i := 24) rfl)) rfl
set_option maxRecDepth 100000 in
theorem m_411 : (.fieldLink RX12 450 "BookOfAll$Volume" "lines" "I" : Cond) ∈ jw := jin (jt_1 _ (List.mem_of_getElem? (i := 169) rfl)) rfl
set_option maxRecDepth 100000 in
theorem m_412 : (.methodLink RX12 491 yX12_isSubscriber : Cond) ∈ jw := jin (jt_6 _ (List.mem_of_getElem? (i := 74) rfl)) rfl
set_option maxRecDepth 100000 in
theorem m_413 : (.instanceMethod yX12_isSubscriber : Cond) ∈ jw := jin (jt_6 _ (List.mem_of_getElem? (i := 76) rfl)) rfl
set_option maxRecDepth 100000 in
theorem m_414 : (.selects RX12 yX12_isSubscriber yX12_isSubscriber : Cond) ∈ jw := jin (jt_p _ (List.mem_of_getElem? (i := 69) rfl)) rfl
set_option maxRecDepth 100000 in
theorem m_415 : (.code yX12_isSubscriber cX12_isSubscriber 2 (some .boolean) : Cond) ∈ jw := jin (jt_6 _ (List.mem_of_getElem? (i := 77) rfl)) rfl
set_option maxRecDepth 100000 in
theorem m_416 : (.fieldLink RX12 70 "BookOfAll" "firstVolume" "[I" : Cond) ∈ jw := jin (jt_2 _ (List.mem_of_getElem? (i := 100) rfl)) rfl
set_option maxRecDepth 100000 in
theorem m_417 : (.fieldLink RX12 73 "BookOfAll" "price" "[I" : Cond) ∈ jw := jin (jt_2 _ (List.mem_of_getElem? (i := 101) rfl)) rfl
set_option maxRecDepth 100000 in
theorem m_418 : (.methodLink RX12 494 yX12_setVolumeAt : Cond) ∈ jw := jin (jt_6 _ (List.mem_of_getElem? (i := 82) rfl)) rfl
set_option maxRecDepth 100000 in
theorem m_419 : (.instanceMethod yX12_setVolumeAt : Cond) ∈ jw := jin (jt_6 _ (List.mem_of_getElem? (i := 84) rfl)) rfl
set_option maxRecDepth 100000 in
theorem m_420 : (.selects RX12 yX12_setVolumeAt yX12_setVolumeAt : Cond) ∈ jw := jin (jt_p _ (List.mem_of_getElem? (i := 70) rfl)) rfl
set_option maxRecDepth 100000 in
theorem m_421 : (.code yX12_setVolumeAt cX12_setVolumeAt 3 (some (.object "BookOfAll$Volume")) : Cond) ∈ jw := jin (jt_6 _ (List.mem_of_getElem? (i := 85) rfl)) rfl
set_option maxRecDepth 100000 in
theorem m_422 : (.fieldLink RX12 85 "BookOfAll" "fitting" "LBookOfAll$Lengths;" : Cond) ∈ jw := jin (jt_2 _ (List.mem_of_getElem? (i := 102) rfl)) rfl
set_option maxRecDepth 100000 in
theorem m_423 : (.fieldLink RX3 27 "BookOfAll$Lengths" "size" "I" : Cond) ∈ jw := jin (jt_2 _ (List.mem_of_getElem? (i := 12) rfl)) rfl
set_option maxRecDepth 100000 in
theorem m_424 : (.fieldLink RX3 31 "BookOfAll$Lengths" "fixed" "I" : Cond) ∈ jw := jin (jt_2 _ (List.mem_of_getElem? (i := 13) rfl)) rfl
set_option maxRecDepth 100000 in
theorem m_425 : (.methodLink RX12 509 yX3_begin : Cond) ∈ jw := jin (jt_6 _ (List.mem_of_getElem? (i := 99) rfl)) rfl
set_option maxRecDepth 100000 in
theorem m_426 : (.instanceMethod yX3_begin : Cond) ∈ jw := jin (jt_6 _ (List.mem_of_getElem? (i := 100) rfl)) rfl
set_option maxRecDepth 100000 in
theorem m_427 : (.selects RX3 yX3_begin yX3_begin : Cond) ∈ jw := jin (jt_6 _ (List.mem_of_getElem? (i := 101) rfl)) rfl
set_option maxRecDepth 100000 in
theorem m_428 : (.initialized RX3 : Cond) ∈ jw := jin (jt_1 _ (List.mem_of_getElem? (i := 9) rfl)) rfl
set_option maxRecDepth 100000 in
theorem m_429 : (.code yX3_begin cX3_begin 1 none : Cond) ∈ jw := jin (jt_6 _ (List.mem_of_getElem? (i := 102) rfl)) rfl
set_option maxRecDepth 100000 in
theorem m_430 : (.fieldLink RX3 18 "BookOfAll$Lengths" "least" "[I" : Cond) ∈ jw := jin (jt_2 _ (List.mem_of_getElem? (i := 9) rfl)) rfl
set_option maxRecDepth 100000 in
theorem m_431 : (.methodLink RX3 43 yX3_sumOf : Cond) ∈ jw := jin (jt_6 _ (List.mem_of_getElem? (i := 121) rfl)) rfl
set_option maxRecDepth 100000 in
theorem m_432 : (.instanceMethod yX3_sumOf : Cond) ∈ jw := jin (jt_6 _ (List.mem_of_getElem? (i := 123) rfl)) rfl
set_option maxRecDepth 100000 in
theorem m_433 : (.selects RX3 yX3_sumOf yX3_sumOf : Cond) ∈ jw := jin (jt_p _ (List.mem_of_getElem? (i := 74) rfl)) rfl
set_option maxRecDepth 100000 in
theorem m_434 : (.code yX3_sumOf cX3_sumOf 4 (some .int) : Cond) ∈ jw := jin (jt_6 _ (List.mem_of_getElem? (i := 124) rfl)) rfl
set_option maxRecDepth 100000 in
theorem m_435 : (.fieldLink RX3 21 "BookOfAll$Lengths" "most" "[I" : Cond) ∈ jw := jin (jt_2 _ (List.mem_of_getElem? (i := 10) rfl)) rfl
set_option maxRecDepth 100000 in
theorem m_436 : (.fieldLink RX3 24 "BookOfAll$Lengths" "fitted" "[I" : Cond) ∈ jw := jin (jt_2 _ (List.mem_of_getElem? (i := 11) rfl)) rfl
set_option maxRecDepth 100000 in
theorem m_437 : (.methodLink RX12 515 yX3_fitTo : Cond) ∈ jw := jin (jt_6 _ (List.mem_of_getElem? (i := 117) rfl)) rfl
set_option maxRecDepth 100000 in
theorem m_438 : (.instanceMethod yX3_fitTo : Cond) ∈ jw := jin (jt_6 _ (List.mem_of_getElem? (i := 118) rfl)) rfl
set_option maxRecDepth 100000 in
theorem m_439 : (.selects RX3 yX3_fitTo yX3_fitTo : Cond) ∈ jw := jin (jt_6 _ (List.mem_of_getElem? (i := 119) rfl)) rfl
set_option maxRecDepth 100000 in
theorem m_440 : (.code yX3_fitTo cX3_fitTo 9 (some .boolean) : Cond) ∈ jw := jin (jt_6 _ (List.mem_of_getElem? (i := 120) rfl)) rfl
set_option maxRecDepth 100000 in
theorem m_441 : (.methodLink RX12 500 yX12_fit : Cond) ∈ jw := jin (jt_6 _ (List.mem_of_getElem? (i := 95) rfl)) rfl
set_option maxRecDepth 100000 in
theorem m_442 : (.instanceMethod yX12_fit : Cond) ∈ jw := jin (jt_6 _ (List.mem_of_getElem? (i := 97) rfl)) rfl
set_option maxRecDepth 100000 in
theorem m_443 : (.selects RX12 yX12_fit yX12_fit : Cond) ∈ jw := jin (jt_p _ (List.mem_of_getElem? (i := 71) rfl)) rfl
set_option maxRecDepth 100000 in
theorem m_444 : (.code yX12_fit cX12_fit 5 (some .boolean) : Cond) ∈ jw := jin (jt_6 _ (List.mem_of_getElem? (i := 98) rfl)) rfl
set_option maxRecDepth 100000 in
theorem m_445 : (.methodLink RX12 503 yX3_differences : Cond) ∈ jw := jin (jt_6 _ (List.mem_of_getElem? (i := 132) rfl)) rfl
set_option maxRecDepth 100000 in
theorem m_446 : (.instanceMethod yX3_differences : Cond) ∈ jw := jin (jt_6 _ (List.mem_of_getElem? (i := 133) rfl)) rfl
set_option maxRecDepth 100000 in
theorem m_447 : (.selects RX3 yX3_differences yX3_differences : Cond) ∈ jw := jin (jt_6 _ (List.mem_of_getElem? (i := 134) rfl)) rfl
set_option maxRecDepth 100000 in
theorem m_448 : (.code yX3_differences cX3_differences 3 (some .int) : Cond) ∈ jw := jin (jt_6 _ (List.mem_of_getElem? (i := 135) rfl)) rfl
set_option maxRecDepth 100000 in
theorem m_449 : (.constant RJ6 265 1431655765 : Cond) ∈ jw := jin (jt_6 _ (List.mem_of_getElem? (i := 156) rfl)) rfl
set_option maxRecDepth 100000 in
theorem m_450 : (.constant RJ6 266 858993459 : Cond) ∈ jw := jin (jt_6 _ (List.mem_of_getElem? (i := 157) rfl)) rfl
set_option maxRecDepth 100000 in
theorem m_451 : (.constant RJ6 267 252645135 : Cond) ∈ jw := jin (jt_6 _ (List.mem_of_getElem? (i := 158) rfl)) rfl
set_option maxRecDepth 100000 in
theorem m_452 : (.methodLink RX12 545 yJ6_bitCount_0f7a4 : Cond) ∈ jw := jin (jt_6 _ (List.mem_of_getElem? (i := 153) rfl)) rfl
set_option maxRecDepth 100000 in
theorem m_453 : (.static yJ6_bitCount_0f7a4 : Cond) ∈ jw := jin (jt_6 _ (List.mem_of_getElem? (i := 154) rfl)) rfl
set_option maxRecDepth 100000 in
theorem m_454 : (.initialized RJ6 : Cond) ∈ jw := jin (jt_1 _ (List.mem_of_getElem? (i := 24) rfl)) rfl
set_option maxRecDepth 100000 in
theorem m_455 : (.code yJ6_bitCount_0f7a4 cJ6_bitCount_0f7a4 1 (some .int) : Cond) ∈ jw := jin (jt_6 _ (List.mem_of_getElem? (i := 155) rfl)) rfl
set_option maxRecDepth 100000 in
theorem m_456 : (.constant RX12 544 1073741824 : Cond) ∈ jw := jin (jt_6 _ (List.mem_of_getElem? (i := 152) rfl)) rfl
set_option maxRecDepth 100000 in
theorem m_457 : (.methodLink RX12 528 yX12_canGive : Cond) ∈ jw := jin (jt_6 _ (List.mem_of_getElem? (i := 148) rfl)) rfl
set_option maxRecDepth 100000 in
theorem m_458 : (.instanceMethod yX12_canGive : Cond) ∈ jw := jin (jt_6 _ (List.mem_of_getElem? (i := 150) rfl)) rfl
set_option maxRecDepth 100000 in
theorem m_459 : (.selects RX12 yX12_canGive yX12_canGive : Cond) ∈ jw := jin (jt_p _ (List.mem_of_getElem? (i := 76) rfl)) rfl
set_option maxRecDepth 100000 in
theorem m_460 : (.code yX12_canGive cX12_canGive 6 (some .boolean) : Cond) ∈ jw := jin (jt_6 _ (List.mem_of_getElem? (i := 151) rfl)) rfl
set_option maxRecDepth 100000 in
theorem m_461 : (.fieldLink RX12 92 "BookOfAll" "giver" "LBookOfAll$Giver;" : Cond) ∈ jw := jin (jt_2 _ (List.mem_of_getElem? (i := 103) rfl)) rfl
set_option maxRecDepth 100000 in
theorem m_462 : (.fieldLink RX1 37 "BookOfAll$Giver" "articleCount" "I" : Cond) ∈ jw := jin (jt_2 _ (List.mem_of_getElem? (i := 39) rfl)) rfl
set_option maxRecDepth 100000 in
theorem m_463 : (.fieldLink RX1 41 "BookOfAll$Giver" "handCount" "I" : Cond) ∈ jw := jin (jt_2 _ (List.mem_of_getElem? (i := 43) rfl)) rfl
set_option maxRecDepth 100000 in
theorem m_464 : (.methodLink RX12 549 yX1_begin : Cond) ∈ jw := jin (jt_6 _ (List.mem_of_getElem? (i := 163) rfl)) rfl
set_option maxRecDepth 100000 in
theorem m_465 : (.instanceMethod yX1_begin : Cond) ∈ jw := jin (jt_6 _ (List.mem_of_getElem? (i := 164) rfl)) rfl
set_option maxRecDepth 100000 in
theorem m_466 : (.selects RX1 yX1_begin yX1_begin : Cond) ∈ jw := jin (jt_6 _ (List.mem_of_getElem? (i := 165) rfl)) rfl
set_option maxRecDepth 100000 in
theorem m_467 : (.initialized RX1 : Cond) ∈ jw := jin (jt_1 _ (List.mem_of_getElem? (i := 10) rfl)) rfl
set_option maxRecDepth 100000 in
theorem m_468 : (.code yX1_begin cX1_begin 1 none : Cond) ∈ jw := jin (jt_6 _ (List.mem_of_getElem? (i := 166) rfl)) rfl
set_option maxRecDepth 100000 in
theorem m_469 : (.methodLink RX12 532 yX12_addHands : Cond) ∈ jw := jin (jt_6 _ (List.mem_of_getElem? (i := 159) rfl)) rfl
set_option maxRecDepth 100000 in
theorem m_470 : (.instanceMethod yX12_addHands : Cond) ∈ jw := jin (jt_6 _ (List.mem_of_getElem? (i := 161) rfl)) rfl
set_option maxRecDepth 100000 in
theorem m_471 : (.selects RX12 yX12_addHands yX12_addHands : Cond) ∈ jw := jin (jt_p _ (List.mem_of_getElem? (i := 77) rfl)) rfl
set_option maxRecDepth 100000 in
theorem m_472 : (.code yX12_addHands cX12_addHands 5 (some .boolean) : Cond) ∈ jw := jin (jt_6 _ (List.mem_of_getElem? (i := 162) rfl)) rfl
set_option maxRecDepth 100000 in
theorem m_473 : (.fieldLink RX12 99 "BookOfAll" "robber" "LBookOfAll$Thief;" : Cond) ∈ jw := jin (jt_2 _ (List.mem_of_getElem? (i := 104) rfl)) rfl
set_option maxRecDepth 100000 in
theorem m_474 : (.fieldLink RX10 18 "BookOfAll$Thief" "size" "I" : Cond) ∈ jw := jin (jt_2 _ (List.mem_of_getElem? (i := 75) rfl)) rfl
set_option maxRecDepth 100000 in
theorem m_475 : (.fieldLink RX10 11 "BookOfAll$Thief" "row" "[I" : Cond) ∈ jw := jin (jt_2 _ (List.mem_of_getElem? (i := 74) rfl)) rfl
set_option maxRecDepth 100000 in
theorem m_476 : (.methodLink RX12 572 yX10_add : Cond) ∈ jw := jin (jt_6 _ (List.mem_of_getElem? (i := 235) rfl)) rfl
set_option maxRecDepth 100000 in
theorem m_477 : (.instanceMethod yX10_add : Cond) ∈ jw := jin (jt_6 _ (List.mem_of_getElem? (i := 236) rfl)) rfl
set_option maxRecDepth 100000 in
theorem m_478 : (.selects RX10 yX10_add yX10_add : Cond) ∈ jw := jin (jt_6 _ (List.mem_of_getElem? (i := 237) rfl)) rfl
set_option maxRecDepth 100000 in
theorem m_479 : (.initialized RX10 : Cond) ∈ jw := jin (jt_1 _ (List.mem_of_getElem? (i := 11) rfl)) rfl
set_option maxRecDepth 100000 in
theorem m_480 : (.code yX10_add cX10_add 2 (some .int) : Cond) ∈ jw := jin (jt_6 _ (List.mem_of_getElem? (i := 238) rfl)) rfl
set_option maxRecDepth 100000 in
theorem m_481 : (.fieldLink RX12 574 "BookOfAll$Thief" "size" "I" : Cond) ∈ jw := jin (jt_2 _ (List.mem_of_getElem? (i := 76) rfl)) rfl
set_option maxRecDepth 100000 in
theorem m_482 : (.methodLink RX12 599 yX12_countOfHand : Cond) ∈ jw := jin (jt_7 _ (List.mem_of_getElem? (i := 45) rfl)) rfl
set_option maxRecDepth 100000 in
theorem m_483 : (.instanceMethod yX12_countOfHand : Cond) ∈ jw := jin (jt_7 _ (List.mem_of_getElem? (i := 47) rfl)) rfl
set_option maxRecDepth 100000 in
theorem m_484 : (.selects RX12 yX12_countOfHand yX12_countOfHand : Cond) ∈ jw := jin (jt_p _ (List.mem_of_getElem? (i := 86) rfl)) rfl
set_option maxRecDepth 100000 in
theorem m_485 : (.code yX12_countOfHand cX12_countOfHand 5 (some .int) : Cond) ∈ jw := jin (jt_7 _ (List.mem_of_getElem? (i := 48) rfl)) rfl
set_option maxRecDepth 100000 in
theorem m_486 : (.fieldLink RX12 590 "BookOfAll$Rules" "sheetCount" "I" : Cond) ∈ jw := jin (jt_1 _ (List.mem_of_getElem? (i := 99) rfl)) rfl
set_option maxRecDepth 100000 in
theorem m_487 : (.fieldLink RX12 593 "BookOfAll$News" "errata" "I" : Cond) ∈ jw := jin (jt_1 _ (List.mem_of_getElem? (i := 213) rfl)) rfl
set_option maxRecDepth 100000 in
theorem m_488 : (.methodLink RX12 596 yX12_payOfAll : Cond) ∈ jw := jin (jt_7 _ (List.mem_of_getElem? (i := 41) rfl)) rfl
set_option maxRecDepth 100000 in
theorem m_489 : (.instanceMethod yX12_payOfAll : Cond) ∈ jw := jin (jt_7 _ (List.mem_of_getElem? (i := 43) rfl)) rfl
set_option maxRecDepth 100000 in
theorem m_490 : (.selects RX12 yX12_payOfAll yX12_payOfAll : Cond) ∈ jw := jin (jt_p _ (List.mem_of_getElem? (i := 85) rfl)) rfl
set_option maxRecDepth 100000 in
theorem m_491 : (.code yX12_payOfAll cX12_payOfAll 4 (some .int) : Cond) ∈ jw := jin (jt_7 _ (List.mem_of_getElem? (i := 44) rfl)) rfl
set_option maxRecDepth 100000 in
theorem m_492 : (.fieldLink RX13 252 "BookOfAllModel" "size" "I" : Cond) ∈ jw := jin (jt_7 _ (List.mem_of_getElem? (i := 56) rfl)) rfl
set_option maxRecDepth 100000 in
theorem m_493 : (.methodLink RX13 256 yX13_in : Cond) ∈ jw := jin (jt_8 _ (List.mem_of_getElem? (i := 136) rfl)) rfl
set_option maxRecDepth 100000 in
theorem m_494 : (.static yX13_in : Cond) ∈ jw := jin (jt_8 _ (List.mem_of_getElem? (i := 137) rfl)) rfl
set_option maxRecDepth 100000 in
theorem m_495 : (.code yX13_in cX13_in 3 (some .boolean) : Cond) ∈ jw := jin (jt_8 _ (List.mem_of_getElem? (i := 138) rfl)) rfl
set_option maxRecDepth 100000 in
theorem m_496 : (.fieldLink RX13 272 "BookOfAllModel" "at" "I" : Cond) ∈ jw := jin (jt_7 _ (List.mem_of_getElem? (i := 57) rfl)) rfl
set_option maxRecDepth 100000 in
theorem m_497 : (.fieldLink RX13 295 "BookOfAllModel" "coming" "I" : Cond) ∈ jw := jin (jt_7 _ (List.mem_of_getElem? (i := 62) rfl)) rfl
set_option maxRecDepth 100000 in
theorem m_498 : (.fieldLink RX13 304 "BookOfAllModel" "deep" "I" : Cond) ∈ jw := jin (jt_7 _ (List.mem_of_getElem? (i := 63) rfl)) rfl
set_option maxRecDepth 100000 in
theorem m_499 : (.fieldLink RX13 298 "BookOfAllModel" "doing" "I" : Cond) ∈ jw := jin (jt_7 _ (List.mem_of_getElem? (i := 67) rfl)) rfl
