theorem b_306 : Cond.constant RX11 434 (2000000000) ∈ BIG := bi (tin_6 _ (List.mem_of_getElem? (i := 33) rfl)) rfl
theorem b_307 : Cond.methodLink RX11 398 yX11_isSlot ∈ BIG := bi (tin_4 _ (List.mem_of_getElem? (i := 24) rfl)) rfl
theorem b_308 : Cond.fieldLink RX11 33 "GentleLetters" "rows" "[LGentleLetters$Row;" ∈ BIG := bi (tin_2 _ (List.mem_of_getElem? (i := 161) rfl)) rfl
theorem b_309 : Cond.fieldLinkNest RX11 430 "GentleLetters$Row" "there" "Z" RX11 ∈ nests := ne (tin_2 _ (List.mem_of_getElem? (i := 141) rfl)) rfl
theorem b_310 : Cond.fieldLink RX11 19 "GentleLetters" "desk" "LGentleLetters$Desk;" ∈ BIG := bi (tin_2 _ (List.mem_of_getElem? (i := 158) rfl)) rfl
theorem b_311 : Cond.methodLinkNest RX11 245 yX0_stands RX11 ∈ nests := ne (tin_4 _ (List.mem_of_getElem? (i := 27) rfl)) rfl
theorem b_312 : Cond.methodLink RX11 404 yX11_rowOf ∈ BIG := bi (tin_4 _ (List.mem_of_getElem? (i := 31) rfl)) rfl
theorem b_313 : Cond.fieldLink RX11 40 "GentleLetters" "week" "LGentleLetters$Week;" ∈ BIG := bi (tin_2 _ (List.mem_of_getElem? (i := 162) rfl)) rfl
theorem b_314 : Cond.methodLinkNest RX11 435 yX10_take RX11 ∈ nests := ne (tin_4 _ (List.mem_of_getElem? (i := 35) rfl)) rfl
theorem b_315 : Cond.methodLinkNest RX11 439 yX10_believe RX11 ∈ nests := ne (tin_4 _ (List.mem_of_getElem? (i := 40) rfl)) rfl
theorem b_316 : Cond.methodLinkNest RX11 122 yX0_hasHearer RX11 ∈ nests := ne (tin_3 _ (List.mem_of_getElem? (i := 148) rfl)) rfl
theorem b_317 : Cond.methodLink RX11 183 yX11_takeWeek ∈ BIG := bi (tin_4 _ (List.mem_of_getElem? (i := 20) rfl)) rfl
theorem b_318 : Cond.methodLinkNest RX11 321 yX10_feel RX11 ∈ nests := ne (tin_4 _ (List.mem_of_getElem? (i := 58) rfl)) rfl
theorem b_319 : Cond.methodLinkNest RX11 187 yX10_lastBelief RX11 ∈ nests := ne (tin_4 _ (List.mem_of_getElem? (i := 46) rfl)) rfl
theorem b_320 : Cond.methodLink RX11 191 yX11_feelWeek ∈ BIG := bi (tin_4 _ (List.mem_of_getElem? (i := 54) rfl)) rfl
theorem b_321 : Cond.methodLinkNest RX11 194 yX10_sumOfHurts RX11 ∈ nests := ne (tin_4 _ (List.mem_of_getElem? (i := 63) rfl)) rfl
theorem b_322 : Cond.methodLinkNest RX11 198 yX10_greatestHurt RX11 ∈ nests := ne (tin_4 _ (List.mem_of_getElem? (i := 71) rfl)) rfl
theorem b_323 : Cond.methodLinkNest RX11 201 yX10_sumLeft RX11 ∈ nests := ne (tin_4 _ (List.mem_of_getElem? (i := 82) rfl)) rfl
theorem b_324 : Cond.methodLinkNest RX11 204 yX10_firstLie RX11 ∈ nests := ne (tin_4 _ (List.mem_of_getElem? (i := 95) rfl)) rfl
theorem b_325 : Cond.methodLinkNest RX11 210 yX0_truth RX11 ∈ nests := ne (tin_4 _ (List.mem_of_getElem? (i := 117) rfl)) rfl
theorem b_326 : Cond.methodLinkNest RX11 213 yX10_knownFrom RX11 ∈ nests := ne (tin_4 _ (List.mem_of_getElem? (i := 121) rfl)) rfl
theorem b_327 : Cond.methodLinkNest RX11 347 yX10_statesMeant RX11 ∈ nests := ne (tin_5 _ (List.mem_of_getElem? (i := 226) rfl)) rfl
theorem b_328 : Cond.methodLinkNest RX11 207 yX10_sumOfShame RX11 ∈ nests := ne (tin_4 _ (List.mem_of_getElem? (i := 104) rfl)) rfl
theorem b_329 : Cond.code yX11_feelWeek cX11_feelWeek 4 (some .int) ∈ BIG := bi (tin_4 _ (List.mem_of_getElem? (i := 57) rfl)) rfl
theorem b_330 : Cond.instanceMethod yX11_feelWeek ∈ BIG := bi (tin_4 _ (List.mem_of_getElem? (i := 56) rfl)) rfl
theorem b_331 : Cond.selects RX11 yX11_feelWeek yX11_feelWeek ∈ BIG := bi (sin_3 _ (List.mem_map.mpr ⟨(yX11_feelWeek, 11), List.mem_of_getElem? (i := 11) rfl, rfl⟩)) rfl
theorem b_332 : Cond.initialized RX11 ∈ BIG := bi (tin_1 _ (List.mem_of_getElem? (i := 1) rfl)) rfl
theorem b_333 : Cond.code yX11_isSlot cX11_isSlot 1 (some .boolean) ∈ BIG := bi (tin_4 _ (List.mem_of_getElem? (i := 26) rfl)) rfl
theorem b_334 : Cond.static yX11_isSlot ∈ BIG := bi (tin_4 _ (List.mem_of_getElem? (i := 25) rfl)) rfl
theorem b_335 : Cond.code yX11_rowOf cX11_rowOf 3 (some (.object "GentleLetters$Row")) ∈ BIG := bi (tin_4 _ (List.mem_of_getElem? (i := 34) rfl)) rfl
theorem b_336 : Cond.instanceMethod yX11_rowOf ∈ BIG := bi (tin_4 _ (List.mem_of_getElem? (i := 33) rfl)) rfl
theorem b_337 : Cond.selects RX11 yX11_rowOf yX11_rowOf ∈ BIG := bi (sin_3 _ (List.mem_map.mpr ⟨(yX11_rowOf, 11), List.mem_of_getElem? (i := 7) rfl, rfl⟩)) rfl
theorem b_338 : Cond.code yX11_takeWeek cX11_takeWeek 3 (some .int) ∈ BIG := bi (tin_4 _ (List.mem_of_getElem? (i := 23) rfl)) rfl
theorem b_339 : Cond.instanceMethod yX11_takeWeek ∈ BIG := bi (tin_4 _ (List.mem_of_getElem? (i := 22) rfl)) rfl
theorem b_340 : Cond.selects RX11 yX11_takeWeek yX11_takeWeek ∈ BIG := bi (sin_3 _ (List.mem_map.mpr ⟨(yX11_takeWeek, 11), List.mem_of_getElem? (i := 5) rfl, rfl⟩)) rfl
theorem b_341 : Cond.code yX0_hasHearer cX0_hasHearer 2 (some .boolean) ∈ BIG := bi (tin_3 _ (List.mem_of_getElem? (i := 151) rfl)) rfl
theorem b_342 : Cond.instanceMethod yX0_hasHearer ∈ BIG := bi (tin_3 _ (List.mem_of_getElem? (i := 150) rfl)) rfl
theorem b_343 : Cond.selects RX0 yX0_hasHearer yX0_hasHearer ∈ BIG := bi (sin_2 _ (List.mem_map.mpr ⟨(yX0_hasHearer, 20), List.mem_of_getElem? (i := 7) rfl, rfl⟩)) rfl
theorem b_344 : Cond.code yX0_stands cX0_stands 1 (some .boolean) ∈ BIG := bi (tin_4 _ (List.mem_of_getElem? (i := 30) rfl)) rfl
theorem b_345 : Cond.instanceMethod yX0_stands ∈ BIG := bi (tin_4 _ (List.mem_of_getElem? (i := 29) rfl)) rfl
theorem b_346 : Cond.selects RX0 yX0_stands yX0_stands ∈ BIG := bi (sin_3 _ (List.mem_map.mpr ⟨(yX0_stands, 20), List.mem_of_getElem? (i := 6) rfl, rfl⟩)) rfl
theorem b_347 : Cond.code yX10_believe cX10_believe 4 none ∈ BIG := bi (tin_4 _ (List.mem_of_getElem? (i := 43) rfl)) rfl
theorem b_348 : Cond.instanceMethod yX10_believe ∈ BIG := bi (tin_4 _ (List.mem_of_getElem? (i := 42) rfl)) rfl
theorem b_349 : Cond.selects RX10 yX10_believe yX10_believe ∈ BIG := bi (sin_3 _ (List.mem_map.mpr ⟨(yX10_believe, 10), List.mem_of_getElem? (i := 9) rfl, rfl⟩)) rfl
theorem b_350 : Cond.code yX10_feel cX10_feel 5 none ∈ BIG := bi (tin_4 _ (List.mem_of_getElem? (i := 61) rfl)) rfl
theorem b_351 : Cond.instanceMethod yX10_feel ∈ BIG := bi (tin_4 _ (List.mem_of_getElem? (i := 60) rfl)) rfl
theorem b_352 : Cond.selects RX10 yX10_feel yX10_feel ∈ BIG := bi (sin_3 _ (List.mem_map.mpr ⟨(yX10_feel, 10), List.mem_of_getElem? (i := 12) rfl, rfl⟩)) rfl
theorem b_353 : Cond.code yX10_firstLie cX10_firstLie 3 (some .int) ∈ BIG := bi (tin_4 _ (List.mem_of_getElem? (i := 98) rfl)) rfl
theorem b_354 : Cond.instanceMethod yX10_firstLie ∈ BIG := bi (tin_4 _ (List.mem_of_getElem? (i := 97) rfl)) rfl
theorem b_355 : Cond.selects RX10 yX10_firstLie yX10_firstLie ∈ BIG := bi (sin_4 _ (List.mem_map.mpr ⟨(yX10_firstLie, 10), List.mem_of_getElem? (i := 1) rfl, rfl⟩)) rfl
theorem b_356 : Cond.code yX10_greatestHurt cX10_greatestHurt 3 (some .int) ∈ BIG := bi (tin_4 _ (List.mem_of_getElem? (i := 74) rfl)) rfl
theorem b_357 : Cond.instanceMethod yX10_greatestHurt ∈ BIG := bi (tin_4 _ (List.mem_of_getElem? (i := 73) rfl)) rfl
theorem b_358 : Cond.selects RX10 yX10_greatestHurt yX10_greatestHurt ∈ BIG := bi (sin_3 _ (List.mem_map.mpr ⟨(yX10_greatestHurt, 10), List.mem_of_getElem? (i := 14) rfl, rfl⟩)) rfl
theorem b_359 : Cond.code yX10_knownFrom cX10_knownFrom 4 (some .int) ∈ BIG := bi (tin_4 _ (List.mem_of_getElem? (i := 124) rfl)) rfl
theorem b_360 : Cond.instanceMethod yX10_knownFrom ∈ BIG := bi (tin_4 _ (List.mem_of_getElem? (i := 123) rfl)) rfl
theorem b_361 : Cond.selects RX10 yX10_knownFrom yX10_knownFrom ∈ BIG := bi (sin_4 _ (List.mem_map.mpr ⟨(yX10_knownFrom, 10), List.mem_of_getElem? (i := 5) rfl, rfl⟩)) rfl
theorem b_362 : Cond.code yX10_statesMeant cX10_statesMeant 4 (some .int) ∈ BIG := bi (tin_5 _ (List.mem_of_getElem? (i := 229) rfl)) rfl
theorem b_363 : Cond.instanceMethod yX10_statesMeant ∈ BIG := bi (tin_5 _ (List.mem_of_getElem? (i := 228) rfl)) rfl
theorem b_364 : Cond.selects RX10 yX10_statesMeant yX10_statesMeant ∈ BIG := bi (sin_6 _ (List.mem_map.mpr ⟨(yX10_statesMeant, 10), List.mem_of_getElem? (i := 10) rfl, rfl⟩)) rfl
theorem b_365 : Cond.code yX10_sumLeft cX10_sumLeft 4 (some .int) ∈ BIG := bi (tin_4 _ (List.mem_of_getElem? (i := 85) rfl)) rfl
theorem b_366 : Cond.instanceMethod yX10_sumLeft ∈ BIG := bi (tin_4 _ (List.mem_of_getElem? (i := 84) rfl)) rfl
theorem b_367 : Cond.selects RX10 yX10_sumLeft yX10_sumLeft ∈ BIG := bi (sin_3 _ (List.mem_map.mpr ⟨(yX10_sumLeft, 10), List.mem_of_getElem? (i := 15) rfl, rfl⟩)) rfl
theorem b_368 : Cond.code yX10_sumOfHurts cX10_sumOfHurts 3 (some .int) ∈ BIG := bi (tin_4 _ (List.mem_of_getElem? (i := 66) rfl)) rfl
theorem b_369 : Cond.instanceMethod yX10_sumOfHurts ∈ BIG := bi (tin_4 _ (List.mem_of_getElem? (i := 65) rfl)) rfl
theorem b_370 : Cond.selects RX10 yX10_sumOfHurts yX10_sumOfHurts ∈ BIG := bi (sin_3 _ (List.mem_map.mpr ⟨(yX10_sumOfHurts, 10), List.mem_of_getElem? (i := 13) rfl, rfl⟩)) rfl
theorem b_371 : Cond.code yX10_sumOfShame cX10_sumOfShame 4 (some .int) ∈ BIG := bi (tin_4 _ (List.mem_of_getElem? (i := 107) rfl)) rfl
theorem b_372 : Cond.instanceMethod yX10_sumOfShame ∈ BIG := bi (tin_4 _ (List.mem_of_getElem? (i := 106) rfl)) rfl
theorem b_373 : Cond.selects RX10 yX10_sumOfShame yX10_sumOfShame ∈ BIG := bi (sin_4 _ (List.mem_map.mpr ⟨(yX10_sumOfShame, 10), List.mem_of_getElem? (i := 2) rfl, rfl⟩)) rfl
theorem b_374 : Cond.code yX10_take cX10_take 6 (some .boolean) ∈ BIG := bi (tin_4 _ (List.mem_of_getElem? (i := 38) rfl)) rfl
theorem b_375 : Cond.instanceMethod yX10_take ∈ BIG := bi (tin_4 _ (List.mem_of_getElem? (i := 37) rfl)) rfl
theorem b_376 : Cond.selects RX10 yX10_take yX10_take ∈ BIG := bi (sin_3 _ (List.mem_map.mpr ⟨(yX10_take, 10), List.mem_of_getElem? (i := 8) rfl, rfl⟩)) rfl
theorem b_377 : Cond.laysFinal RX11 RX11 "reader" "LGentleLetters$DeskReader;" ∈ BIG := bi (tin_2 _ (List.mem_of_getElem? (i := 168) rfl)) rfl
theorem b_378 : Cond.laysFinal RX11 RX11 "desk" "LGentleLetters$Desk;" ∈ BIG := bi (tin_2 _ (List.mem_of_getElem? (i := 170) rfl)) rfl
theorem b_379 : Cond.laysFinal RX11 RX11 "images" "[LGentleLetters$Desk;" ∈ BIG := bi (tin_2 _ (List.mem_of_getElem? (i := 172) rfl)) rfl
theorem b_380 : Cond.laysFinal RX11 RX11 "imaged" "[Z" ∈ BIG := bi (tin_2 _ (List.mem_of_getElem? (i := 174) rfl)) rfl
theorem b_381 : Cond.laysFinal RX11 RX11 "rows" "[LGentleLetters$Row;" ∈ BIG := bi (tin_2 _ (List.mem_of_getElem? (i := 176) rfl)) rfl
theorem b_382 : Cond.laysFinal RX11 RX11 "week" "LGentleLetters$Week;" ∈ BIG := bi (tin_2 _ (List.mem_of_getElem? (i := 178) rfl)) rfl
theorem b_383 : Cond.laysFinal RX11 RX11 "mind" "LGentleLetters$Mind;" ∈ BIG := bi (tin_2 _ (List.mem_of_getElem? (i := 180) rfl)) rfl
theorem b_384 : Cond.laysFinal RX11 RX11 "reach" "LGentleLetters$Reach;" ∈ BIG := bi (tin_2 _ (List.mem_of_getElem? (i := 182) rfl)) rfl
theorem b_385 : Cond.laysFinal RX11 RX11 "planner" "LGentleLetters$Planner;" ∈ BIG := bi (tin_2 _ (List.mem_of_getElem? (i := 184) rfl)) rfl
theorem b_386 : Cond.laysFinal RX11 RX11 "risks" "LGentleLetters$Risks;" ∈ BIG := bi (tin_2 _ (List.mem_of_getElem? (i := 186) rfl)) rfl
theorem b_387 : Cond.laysFinal RX11 RX11 "letters" "LGentleLetters$Letters;" ∈ BIG := bi (tin_2 _ (List.mem_of_getElem? (i := 188) rfl)) rfl
theorem m_yX11_feelWeek : MV yX11_feelWeek cX11_feelWeek 4 (some .int) 2 := ⟨b_329, b_330, b_331, b_332, by decide +kernel⟩
theorem m_yX11_isSlot : MS yX11_isSlot cX11_isSlot 1 (some .boolean) 1 := ⟨b_333, b_334, b_332, by decide +kernel⟩
theorem m_yX11_rowOf : MV yX11_rowOf cX11_rowOf 3 (some (.object "GentleLetters$Row")) 1 := ⟨b_335, b_336, b_337, b_332, by decide +kernel⟩
theorem m_yX11_takeWeek : MV yX11_takeWeek cX11_takeWeek 3 (some .int) 1 := ⟨b_338, b_339, b_340, b_332, by decide +kernel⟩
theorem m_yX0_hasHearer : MV yX0_hasHearer cX0_hasHearer 2 (some .boolean) 1 := ⟨b_341, b_342, b_343, b_21, by decide +kernel⟩
theorem m_yX0_stands : MV yX0_stands cX0_stands 1 (some .boolean) 0 := ⟨b_344, b_345, b_346, b_21, by decide +kernel⟩
theorem m_yX10_believe : MV yX10_believe cX10_believe 4 none 1 := ⟨b_347, b_348, b_349, b_243, by decide +kernel⟩
theorem m_yX10_feel : MV yX10_feel cX10_feel 5 none 2 := ⟨b_350, b_351, b_352, b_243, by decide +kernel⟩
theorem m_yX10_firstLie : MV yX10_firstLie cX10_firstLie 3 (some .int) 1 := ⟨b_353, b_354, b_355, b_243, by decide +kernel⟩
theorem m_yX10_greatestHurt : MV yX10_greatestHurt cX10_greatestHurt 3 (some .int) 0 := ⟨b_356, b_357, b_358, b_243, by decide +kernel⟩
theorem m_yX10_knownFrom : MV yX10_knownFrom cX10_knownFrom 4 (some .int) 1 := ⟨b_359, b_360, b_361, b_243, by decide +kernel⟩
theorem m_yX10_statesMeant : MV yX10_statesMeant cX10_statesMeant 4 (some .int) 1 := ⟨b_362, b_363, b_364, b_243, by decide +kernel⟩
theorem m_yX10_sumLeft : MV yX10_sumLeft cX10_sumLeft 4 (some .int) 1 := ⟨b_365, b_366, b_367, b_243, by decide +kernel⟩
theorem m_yX10_sumOfHurts : MV yX10_sumOfHurts cX10_sumOfHurts 3 (some .int) 0 := ⟨b_368, b_369, b_370, b_243, by decide +kernel⟩
theorem m_yX10_sumOfShame : MV yX10_sumOfShame cX10_sumOfShame 4 (some .int) 1 := ⟨b_371, b_372, b_373, b_243, by decide +kernel⟩
theorem m_yX10_take : MV yX10_take cX10_take 6 (some .boolean) 2 := ⟨b_374, b_375, b_376, b_243, by decide +kernel⟩
theorem i_X11 : ∀ w ∈ u_ws RX11 TX11 11, w ∈ BIG := fun w hw => by
  obtain ⟨k, hk, rfl⟩ := List.mem_map.mp hw
  have hk := List.mem_range.mp hk
  match k, hk with
  | 0, _ => exact b_377
  | 1, _ => exact b_378
  | 2, _ => exact b_379
  | 3, _ => exact b_380
  | 4, _ => exact b_381
  | 5, _ => exact b_382
  | 6, _ => exact b_383
  | 7, _ => exact b_384
  | 8, _ => exact b_385
  | 9, _ => exact b_386
  | 10, _ => exact b_387
  | k + 11, hk => exact absurd hk (by omega)
theorem dX11_believes_0 : decode cX11_believes 0 = .ok (.aload_n 0, 1) := by decide +kernel
theorem dX11_believes_1 : decode cX11_believes 1 = .ok (.iload_n 1, 1) := by decide +kernel
theorem dX11_believes_2 : decode cX11_believes 2 = .ok (.invokevirtual 183, 3) := by decide +kernel
theorem dX11_believes_5 : decode cX11_believes 5 = .ok (.istore_n 2, 1) := by decide +kernel
theorem dX11_believes_6 : decode cX11_believes 6 = .ok (.iload_n 2, 1) := by decide +kernel
theorem dX11_believes_7 : decode cX11_believes 7 = .ok (.ifCond .ge 7, 3) := by decide +kernel
theorem dX11_believes_10 : decode cX11_believes 10 = .ok (.iload_n 2, 1) := by decide +kernel
theorem dX11_believes_11 : decode cX11_believes 11 = .ok (.goto 14, 3) := by decide +kernel
theorem dX11_believes_14 : decode cX11_believes 14 = .ok (.aload_n 0, 1) := by decide +kernel
theorem dX11_believes_15 : decode cX11_believes 15 = .ok (.getfield 40, 3) := by decide +kernel
theorem dX11_believes_18 : decode cX11_believes 18 = .ok (.aload_n 0, 1) := by decide +kernel
theorem dX11_believes_19 : decode cX11_believes 19 = .ok (.getfield 19, 3) := by decide +kernel
theorem dX11_believes_22 : decode cX11_believes 22 = .ok (.invokevirtual 187, 3) := by decide +kernel
theorem dX11_believes_25 : decode cX11_believes 25 = .ok (.ireturn, 1) := by decide +kernel
theorem dX11_feelWeek_0 : decode cX11_feelWeek 0 = .ok (.aload_n 0, 1) := by decide +kernel
theorem dX11_feelWeek_1 : decode cX11_feelWeek 1 = .ok (.getfield 19, 3) := by decide +kernel
theorem dX11_feelWeek_4 : decode cX11_feelWeek 4 = .ok (.iload_n 2, 1) := by decide +kernel
theorem dX11_feelWeek_5 : decode cX11_feelWeek 5 = .ok (.invokevirtual 122, 3) := by decide +kernel
theorem dX11_feelWeek_8 : decode cX11_feelWeek 8 = .ok (.ifCond .ne 6, 3) := by decide +kernel
theorem dX11_feelWeek_11 : decode cX11_feelWeek 11 = .ok (.bipush (-2), 2) := by decide +kernel
theorem dX11_feelWeek_13 : decode cX11_feelWeek 13 = .ok (.ireturn, 1) := by decide +kernel
theorem dX11_feelWeek_14 : decode cX11_feelWeek 14 = .ok (.aload_n 0, 1) := by decide +kernel
theorem dX11_feelWeek_15 : decode cX11_feelWeek 15 = .ok (.iload_n 1, 1) := by decide +kernel
theorem dX11_feelWeek_16 : decode cX11_feelWeek 16 = .ok (.invokevirtual 183, 3) := by decide +kernel
theorem dX11_feelWeek_19 : decode cX11_feelWeek 19 = .ok (.istore_n 3, 1) := by decide +kernel
theorem dX11_feelWeek_20 : decode cX11_feelWeek 20 = .ok (.iload_n 3, 1) := by decide +kernel
theorem dX11_feelWeek_21 : decode cX11_feelWeek 21 = .ok (.ifCond .ne 15, 3) := by decide +kernel
theorem dX11_feelWeek_24 : decode cX11_feelWeek 24 = .ok (.aload_n 0, 1) := by decide +kernel
theorem dX11_feelWeek_25 : decode cX11_feelWeek 25 = .ok (.getfield 40, 3) := by decide +kernel
theorem dX11_feelWeek_28 : decode cX11_feelWeek 28 = .ok (.aload_n 0, 1) := by decide +kernel
theorem dX11_feelWeek_29 : decode cX11_feelWeek 29 = .ok (.getfield 19, 3) := by decide +kernel
theorem dX11_feelWeek_32 : decode cX11_feelWeek 32 = .ok (.iload_n 2, 1) := by decide +kernel
theorem dX11_feelWeek_33 : decode cX11_feelWeek 33 = .ok (.invokevirtual 321, 3) := by decide +kernel
theorem dX11_feelWeek_36 : decode cX11_feelWeek 36 = .ok (.iload_n 3, 1) := by decide +kernel
theorem dX11_feelWeek_37 : decode cX11_feelWeek 37 = .ok (.ireturn, 1) := by decide +kernel
theorem dX11_hurts_0 : decode cX11_hurts 0 = .ok (.aload_n 0, 1) := by decide +kernel
theorem dX11_hurts_1 : decode cX11_hurts 1 = .ok (.iload_n 1, 1) := by decide +kernel
theorem dX11_hurts_2 : decode cX11_hurts 2 = .ok (.iload_n 2, 1) := by decide +kernel
theorem dX11_hurts_3 : decode cX11_hurts 3 = .ok (.invokevirtual 191, 3) := by decide +kernel
theorem dX11_hurts_6 : decode cX11_hurts 6 = .ok (.istore_n 3, 1) := by decide +kernel
theorem dX11_hurts_7 : decode cX11_hurts 7 = .ok (.iload_n 3, 1) := by decide +kernel
theorem dX11_hurts_8 : decode cX11_hurts 8 = .ok (.ifCond .ge 7, 3) := by decide +kernel
theorem dX11_hurts_11 : decode cX11_hurts 11 = .ok (.iload_n 3, 1) := by decide +kernel
theorem dX11_hurts_12 : decode cX11_hurts 12 = .ok (.goto 10, 3) := by decide +kernel
theorem dX11_hurts_15 : decode cX11_hurts 15 = .ok (.aload_n 0, 1) := by decide +kernel
theorem dX11_hurts_16 : decode cX11_hurts 16 = .ok (.getfield 40, 3) := by decide +kernel
theorem dX11_hurts_19 : decode cX11_hurts 19 = .ok (.invokevirtual 194, 3) := by decide +kernel
theorem dX11_hurts_22 : decode cX11_hurts 22 = .ok (.ireturn, 1) := by decide +kernel
theorem dX11_isSeed_0 : decode cX11_isSeed 0 = .ok (.iload_n 0, 1) := by decide +kernel
theorem dX11_isSeed_1 : decode cX11_isSeed 1 = .ok (.ifCond .lt 14, 3) := by decide +kernel
theorem dX11_isSeed_4 : decode cX11_isSeed 4 = .ok (.iload_n 0, 1) := by decide +kernel
theorem dX11_isSeed_5 : decode cX11_isSeed 5 = .ok (.ldc_w 434, 3) := by decide +kernel
theorem dX11_isSeed_8 : decode cX11_isSeed 8 = .ok (.if_icmp .gt 7, 3) := by decide +kernel
theorem dX11_isSeed_11 : decode cX11_isSeed 11 = .ok (.iconst 1, 1) := by decide +kernel
theorem dX11_isSeed_12 : decode cX11_isSeed 12 = .ok (.goto 4, 3) := by decide +kernel
theorem dX11_isSeed_15 : decode cX11_isSeed 15 = .ok (.iconst 0, 1) := by decide +kernel
theorem dX11_isSeed_16 : decode cX11_isSeed 16 = .ok (.ireturn, 1) := by decide +kernel
theorem dX11_isSlot_0 : decode cX11_isSlot 0 = .ok (.iload_n 0, 1) := by decide +kernel
theorem dX11_isSlot_1 : decode cX11_isSlot 1 = .ok (.ifCond .lt 12, 3) := by decide +kernel
theorem dX11_isSlot_4 : decode cX11_isSlot 4 = .ok (.iload_n 0, 1) := by decide +kernel
theorem dX11_isSlot_5 : decode cX11_isSlot 5 = .ok (.iconst 4, 1) := by decide +kernel
theorem dX11_isSlot_6 : decode cX11_isSlot 6 = .ok (.if_icmp .ge 7, 3) := by decide +kernel
theorem dX11_isSlot_9 : decode cX11_isSlot 9 = .ok (.iconst 1, 1) := by decide +kernel
theorem dX11_isSlot_10 : decode cX11_isSlot 10 = .ok (.goto 4, 3) := by decide +kernel
theorem dX11_isSlot_13 : decode cX11_isSlot 13 = .ok (.iconst 0, 1) := by decide +kernel
theorem dX11_isSlot_14 : decode cX11_isSlot 14 = .ok (.ireturn, 1) := by decide +kernel
theorem dX11_known_0 : decode cX11_known 0 = .ok (.aload_n 0, 1) := by decide +kernel
theorem dX11_known_1 : decode cX11_known 1 = .ok (.iload_n 1, 1) := by decide +kernel
theorem dX11_known_2 : decode cX11_known 2 = .ok (.invokevirtual 183, 3) := by decide +kernel
theorem dX11_known_5 : decode cX11_known 5 = .ok (.istore_n 2, 1) := by decide +kernel
theorem dX11_known_6 : decode cX11_known 6 = .ok (.iload_n 2, 1) := by decide +kernel
theorem dX11_known_7 : decode cX11_known 7 = .ok (.ifCond .ge 7, 3) := by decide +kernel
theorem dX11_known_10 : decode cX11_known 10 = .ok (.iload_n 2, 1) := by decide +kernel
theorem dX11_known_11 : decode cX11_known 11 = .ok (.goto 17, 3) := by decide +kernel
theorem dX11_known_14 : decode cX11_known 14 = .ok (.aload_n 0, 1) := by decide +kernel
theorem dX11_known_15 : decode cX11_known 15 = .ok (.getfield 40, 3) := by decide +kernel
theorem dX11_known_18 : decode cX11_known 18 = .ok (.aload_n 0, 1) := by decide +kernel
theorem dX11_known_19 : decode cX11_known 19 = .ok (.getfield 19, 3) := by decide +kernel
theorem dX11_known_22 : decode cX11_known 22 = .ok (.invokevirtual 210, 3) := by decide +kernel
theorem dX11_known_25 : decode cX11_known 25 = .ok (.invokevirtual 213, 3) := by decide +kernel
theorem dX11_known_28 : decode cX11_known 28 = .ok (.ireturn, 1) := by decide +kernel
theorem dX11_left_0 : decode cX11_left 0 = .ok (.aload_n 0, 1) := by decide +kernel
theorem dX11_left_1 : decode cX11_left 1 = .ok (.iload_n 1, 1) := by decide +kernel
theorem dX11_left_2 : decode cX11_left 2 = .ok (.iload_n 2, 1) := by decide +kernel
theorem dX11_left_3 : decode cX11_left 3 = .ok (.invokevirtual 191, 3) := by decide +kernel
theorem dX11_left_6 : decode cX11_left 6 = .ok (.istore_n 3, 1) := by decide +kernel
theorem dX11_left_7 : decode cX11_left 7 = .ok (.iload_n 3, 1) := by decide +kernel
theorem dX11_left_8 : decode cX11_left 8 = .ok (.ifCond .ge 7, 3) := by decide +kernel
theorem dX11_left_11 : decode cX11_left 11 = .ok (.iload_n 3, 1) := by decide +kernel
theorem dX11_left_12 : decode cX11_left 12 = .ok (.goto 14, 3) := by decide +kernel
theorem dX11_left_15 : decode cX11_left 15 = .ok (.aload_n 0, 1) := by decide +kernel
theorem dX11_left_16 : decode cX11_left 16 = .ok (.getfield 40, 3) := by decide +kernel
theorem dX11_left_19 : decode cX11_left 19 = .ok (.aload_n 0, 1) := by decide +kernel
theorem dX11_left_20 : decode cX11_left 20 = .ok (.getfield 19, 3) := by decide +kernel
theorem dX11_left_23 : decode cX11_left 23 = .ok (.invokevirtual 201, 3) := by decide +kernel
theorem dX11_left_26 : decode cX11_left 26 = .ok (.ireturn, 1) := by decide +kernel
theorem dX11_lies_0 : decode cX11_lies 0 = .ok (.aload_n 0, 1) := by decide +kernel
theorem dX11_lies_1 : decode cX11_lies 1 = .ok (.iload_n 1, 1) := by decide +kernel
theorem dX11_lies_2 : decode cX11_lies 2 = .ok (.invokevirtual 183, 3) := by decide +kernel
theorem dX11_lies_5 : decode cX11_lies 5 = .ok (.istore_n 2, 1) := by decide +kernel
theorem dX11_lies_6 : decode cX11_lies 6 = .ok (.iload_n 2, 1) := by decide +kernel
theorem dX11_lies_7 : decode cX11_lies 7 = .ok (.ifCond .ge 7, 3) := by decide +kernel
theorem dX11_lies_10 : decode cX11_lies 10 = .ok (.iload_n 2, 1) := by decide +kernel
theorem dX11_lies_11 : decode cX11_lies 11 = .ok (.goto 14, 3) := by decide +kernel
theorem dX11_lies_14 : decode cX11_lies 14 = .ok (.aload_n 0, 1) := by decide +kernel
theorem dX11_lies_15 : decode cX11_lies 15 = .ok (.getfield 40, 3) := by decide +kernel
theorem dX11_lies_18 : decode cX11_lies 18 = .ok (.aload_n 0, 1) := by decide +kernel
theorem dX11_lies_19 : decode cX11_lies 19 = .ok (.getfield 19, 3) := by decide +kernel
theorem dX11_lies_22 : decode cX11_lies 22 = .ok (.invokevirtual 204, 3) := by decide +kernel
theorem dX11_lies_25 : decode cX11_lies 25 = .ok (.ireturn, 1) := by decide +kernel
theorem dX11_read_0 : decode cX11_read 0 = .ok (.aload_n 0, 1) := by decide +kernel
theorem dX11_read_1 : decode cX11_read 1 = .ok (.iload_n 1, 1) := by decide +kernel
theorem dX11_read_2 : decode cX11_read 2 = .ok (.invokevirtual 183, 3) := by decide +kernel
theorem dX11_read_5 : decode cX11_read 5 = .ok (.istore_n 2, 1) := by decide +kernel
theorem dX11_read_6 : decode cX11_read 6 = .ok (.iload_n 2, 1) := by decide +kernel
theorem dX11_read_7 : decode cX11_read 7 = .ok (.ifCond .ge 7, 3) := by decide +kernel
theorem dX11_read_10 : decode cX11_read 10 = .ok (.iload_n 2, 1) := by decide +kernel
theorem dX11_read_11 : decode cX11_read 11 = .ok (.goto 14, 3) := by decide +kernel
theorem dX11_read_14 : decode cX11_read 14 = .ok (.aload_n 0, 1) := by decide +kernel
theorem dX11_read_15 : decode cX11_read 15 = .ok (.getfield 40, 3) := by decide +kernel
theorem dX11_read_18 : decode cX11_read 18 = .ok (.aload_n 0, 1) := by decide +kernel
theorem dX11_read_19 : decode cX11_read 19 = .ok (.getfield 19, 3) := by decide +kernel
theorem dX11_read_22 : decode cX11_read 22 = .ok (.invokevirtual 347, 3) := by decide +kernel
theorem dX11_read_25 : decode cX11_read 25 = .ok (.ireturn, 1) := by decide +kernel
theorem dX11_rowOf_0 : decode cX11_rowOf 0 = .ok (.iload_n 1, 1) := by decide +kernel
theorem dX11_rowOf_1 : decode cX11_rowOf 1 = .ok (.invokestatic 398, 3) := by decide +kernel
theorem dX11_rowOf_4 : decode cX11_rowOf 4 = .ok (.ifCond .eq 12, 3) := by decide +kernel
theorem dX11_rowOf_7 : decode cX11_rowOf 7 = .ok (.aload_n 0, 1) := by decide +kernel
theorem dX11_rowOf_8 : decode cX11_rowOf 8 = .ok (.getfield 33, 3) := by decide +kernel
theorem dX11_rowOf_11 : decode cX11_rowOf 11 = .ok (.iload_n 1, 1) := by decide +kernel
theorem dX11_rowOf_12 : decode cX11_rowOf 12 = .ok (.aaload, 1) := by decide +kernel
theorem dX11_rowOf_13 : decode cX11_rowOf 13 = .ok (.goto 4, 3) := by decide +kernel
theorem dX11_rowOf_17 : decode cX11_rowOf 17 = .ok (.astore_n 2, 1) := by decide +kernel
theorem dX11_rowOf_18 : decode cX11_rowOf 18 = .ok (.aload_n 2, 1) := by decide +kernel
theorem dX11_rowOf_19 : decode cX11_rowOf 19 = .ok (.ifnull 14, 3) := by decide +kernel
theorem dX11_rowOf_22 : decode cX11_rowOf 22 = .ok (.aload_n 2, 1) := by decide +kernel
theorem dX11_rowOf_23 : decode cX11_rowOf 23 = .ok (.getfield 430, 3) := by decide +kernel
theorem dX11_rowOf_26 : decode cX11_rowOf 26 = .ok (.ifCond .eq 7, 3) := by decide +kernel
theorem dX11_rowOf_29 : decode cX11_rowOf 29 = .ok (.aload_n 2, 1) := by decide +kernel
theorem dX11_rowOf_30 : decode cX11_rowOf 30 = .ok (.goto 4, 3) := by decide +kernel
theorem dX11_rowOf_33 : decode cX11_rowOf 33 = .ok (.aconst_null, 1) := by decide +kernel
theorem dX11_rowOf_34 : decode cX11_rowOf 34 = .ok (.areturn, 1) := by decide +kernel
theorem dX11_shames_0 : decode cX11_shames 0 = .ok (.aload_n 0, 1) := by decide +kernel
theorem dX11_shames_1 : decode cX11_shames 1 = .ok (.iload_n 1, 1) := by decide +kernel
theorem dX11_shames_2 : decode cX11_shames 2 = .ok (.invokevirtual 183, 3) := by decide +kernel
theorem dX11_shames_5 : decode cX11_shames 5 = .ok (.istore_n 2, 1) := by decide +kernel
theorem dX11_shames_6 : decode cX11_shames 6 = .ok (.iload_n 2, 1) := by decide +kernel
theorem dX11_shames_7 : decode cX11_shames 7 = .ok (.ifCond .ge 7, 3) := by decide +kernel
theorem dX11_shames_10 : decode cX11_shames 10 = .ok (.iload_n 2, 1) := by decide +kernel
theorem dX11_shames_11 : decode cX11_shames 11 = .ok (.goto 14, 3) := by decide +kernel
theorem dX11_shames_14 : decode cX11_shames 14 = .ok (.aload_n 0, 1) := by decide +kernel
theorem dX11_shames_15 : decode cX11_shames 15 = .ok (.getfield 40, 3) := by decide +kernel
theorem dX11_shames_18 : decode cX11_shames 18 = .ok (.aload_n 0, 1) := by decide +kernel
theorem dX11_shames_19 : decode cX11_shames 19 = .ok (.getfield 19, 3) := by decide +kernel
theorem dX11_shames_22 : decode cX11_shames 22 = .ok (.invokevirtual 207, 3) := by decide +kernel
theorem dX11_shames_25 : decode cX11_shames 25 = .ok (.ireturn, 1) := by decide +kernel
theorem dX11_takeWeek_0 : decode cX11_takeWeek 0 = .ok (.iload_n 1, 1) := by decide +kernel
theorem dX11_takeWeek_1 : decode cX11_takeWeek 1 = .ok (.invokestatic 398, 3) := by decide +kernel
theorem dX11_takeWeek_4 : decode cX11_takeWeek 4 = .ok (.ifCond .eq 13, 3) := by decide +kernel
theorem dX11_takeWeek_7 : decode cX11_takeWeek 7 = .ok (.aload_n 0, 1) := by decide +kernel
theorem dX11_takeWeek_8 : decode cX11_takeWeek 8 = .ok (.getfield 19, 3) := by decide +kernel
theorem dX11_takeWeek_11 : decode cX11_takeWeek 11 = .ok (.invokevirtual 245, 3) := by decide +kernel
theorem dX11_takeWeek_14 : decode cX11_takeWeek 14 = .ok (.ifCond .ne 6, 3) := by decide +kernel
theorem dX11_takeWeek_17 : decode cX11_takeWeek 17 = .ok (.bipush (-2), 2) := by decide +kernel
theorem dX11_takeWeek_19 : decode cX11_takeWeek 19 = .ok (.ireturn, 1) := by decide +kernel
theorem dX11_takeWeek_20 : decode cX11_takeWeek 20 = .ok (.aload_n 0, 1) := by decide +kernel
theorem dX11_takeWeek_21 : decode cX11_takeWeek 21 = .ok (.iload_n 1, 1) := by decide +kernel
theorem dX11_takeWeek_22 : decode cX11_takeWeek 22 = .ok (.invokevirtual 404, 3) := by decide +kernel
theorem dX11_takeWeek_25 : decode cX11_takeWeek 25 = .ok (.astore_n 2, 1) := by decide +kernel
theorem dX11_takeWeek_26 : decode cX11_takeWeek 26 = .ok (.aload_n 2, 1) := by decide +kernel
theorem dX11_takeWeek_27 : decode cX11_takeWeek 27 = .ok (.ifnonnull 6, 3) := by decide +kernel
theorem dX11_takeWeek_30 : decode cX11_takeWeek 30 = .ok (.bipush (-6), 2) := by decide +kernel
theorem dX11_takeWeek_32 : decode cX11_takeWeek 32 = .ok (.ireturn, 1) := by decide +kernel
theorem dX11_takeWeek_33 : decode cX11_takeWeek 33 = .ok (.aload_n 0, 1) := by decide +kernel
theorem dX11_takeWeek_34 : decode cX11_takeWeek 34 = .ok (.getfield 40, 3) := by decide +kernel
theorem dX11_takeWeek_37 : decode cX11_takeWeek 37 = .ok (.aload_n 2, 1) := by decide +kernel
theorem dX11_takeWeek_38 : decode cX11_takeWeek 38 = .ok (.aload_n 0, 1) := by decide +kernel
theorem dX11_takeWeek_39 : decode cX11_takeWeek 39 = .ok (.getfield 19, 3) := by decide +kernel
theorem dX11_takeWeek_42 : decode cX11_takeWeek 42 = .ok (.invokevirtual 435, 3) := by decide +kernel
theorem dX11_takeWeek_45 : decode cX11_takeWeek 45 = .ok (.ifCond .ne 6, 3) := by decide +kernel
theorem dX11_takeWeek_48 : decode cX11_takeWeek 48 = .ok (.bipush (-2), 2) := by decide +kernel
theorem dX11_takeWeek_50 : decode cX11_takeWeek 50 = .ok (.ireturn, 1) := by decide +kernel
theorem dX11_takeWeek_51 : decode cX11_takeWeek 51 = .ok (.aload_n 0, 1) := by decide +kernel
theorem dX11_takeWeek_52 : decode cX11_takeWeek 52 = .ok (.getfield 40, 3) := by decide +kernel
theorem dX11_takeWeek_55 : decode cX11_takeWeek 55 = .ok (.aload_n 0, 1) := by decide +kernel
theorem dX11_takeWeek_56 : decode cX11_takeWeek 56 = .ok (.getfield 19, 3) := by decide +kernel
theorem dX11_takeWeek_59 : decode cX11_takeWeek 59 = .ok (.invokevirtual 439, 3) := by decide +kernel
theorem dX11_takeWeek_62 : decode cX11_takeWeek 62 = .ok (.iconst 0, 1) := by decide +kernel
theorem dX11_takeWeek_63 : decode cX11_takeWeek 63 = .ok (.ireturn, 1) := by decide +kernel
theorem dX11_worst_0 : decode cX11_worst 0 = .ok (.aload_n 0, 1) := by decide +kernel
theorem dX11_worst_1 : decode cX11_worst 1 = .ok (.iload_n 1, 1) := by decide +kernel
theorem dX11_worst_2 : decode cX11_worst 2 = .ok (.iload_n 2, 1) := by decide +kernel
theorem dX11_worst_3 : decode cX11_worst 3 = .ok (.invokevirtual 191, 3) := by decide +kernel
theorem dX11_worst_6 : decode cX11_worst 6 = .ok (.istore_n 3, 1) := by decide +kernel
theorem dX11_worst_7 : decode cX11_worst 7 = .ok (.iload_n 3, 1) := by decide +kernel
theorem dX11_worst_8 : decode cX11_worst 8 = .ok (.ifCond .ge 7, 3) := by decide +kernel
theorem dX11_worst_11 : decode cX11_worst 11 = .ok (.iload_n 3, 1) := by decide +kernel
theorem dX11_worst_12 : decode cX11_worst 12 = .ok (.goto 10, 3) := by decide +kernel
theorem dX11_worst_15 : decode cX11_worst 15 = .ok (.aload_n 0, 1) := by decide +kernel
theorem dX11_worst_16 : decode cX11_worst 16 = .ok (.getfield 40, 3) := by decide +kernel
theorem dX11_worst_19 : decode cX11_worst 19 = .ok (.invokevirtual 198, 3) := by decide +kernel
theorem dX11_worst_22 : decode cX11_worst 22 = .ok (.ireturn, 1) := by decide +kernel
