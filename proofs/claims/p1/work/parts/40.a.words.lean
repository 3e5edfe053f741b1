theorem b_359 : Cond.constantLong RX12 447 (3) ∈ BIG := bi (tin_7 _ (List.mem_of_getElem? (i := 219) rfl)) rfl
theorem b_360 : Cond.methodLink RX12 67 yX12_in ∈ BIG := bi (tin_6 _ (List.mem_of_getElem? (i := 194) rfl)) rfl
theorem b_361 : Cond.constantLong RX12 436 (2000000000) ∈ BIG := bi (tin_9 _ (List.mem_of_getElem? (i := 75) rfl)) rfl
theorem b_362 : Cond.fieldLink RX12 9 "GentleLettersModel" "world" "[I" ∈ BIG := bi (tin_6 _ (List.mem_of_getElem? (i := 102) rfl)) rfl
theorem b_363 : Cond.methodLink RX12 77 yX12_isDesk ∈ BIG := bi (tin_7 _ (List.mem_of_getElem? (i := 150) rfl)) rfl
theorem b_364 : Cond.methodLink RX12 296 yX12_isSlot ∈ BIG := bi (tin_7 _ (List.mem_of_getElem? (i := 216) rfl)) rfl
theorem b_365 : Cond.methodLink RX12 258 yX12_isHearer ∈ BIG := bi (tin_7 _ (List.mem_of_getElem? (i := 87) rfl)) rfl
theorem b_366 : Cond.methodLink RX12 299 yX12_asksWeek ∈ BIG := bi (tin_7 _ (List.mem_of_getElem? (i := 212) rfl)) rfl
theorem b_367 : Cond.methodLink RX12 255 yX12_isState ∈ BIG := bi (tin_7 _ (List.mem_of_getElem? (i := 79) rfl)) rfl
theorem b_368 : Cond.methodLink RX12 71 yX12_isWord ∈ BIG := bi (tin_7 _ (List.mem_of_getElem? (i := 103) rfl)) rfl
theorem b_369 : Cond.methodLink RX12 264 yX12_isPlan ∈ BIG := bi (tin_7 _ (List.mem_of_getElem? (i := 122) rfl)) rfl
theorem b_370 : Cond.methodLink RX12 273 yX12_isBelief ∈ BIG := bi (tin_7 _ (List.mem_of_getElem? (i := 146) rfl)) rfl
theorem b_371 : Cond.methodLink RX12 367 yX12_asksOrder ∈ BIG := bi (tin_8 _ (List.mem_of_getElem? (i := 140) rfl)) rfl
theorem b_372 : Cond.methodLink RX12 400 yX12_areLetters ∈ BIG := bi (tin_8 _ (List.mem_of_getElem? (i := 225) rfl)) rfl
theorem b_373 : Cond.methodLink RX12 438 yX12_isSeed ∈ BIG := bi (tin_9 _ (List.mem_of_getElem? (i := 72) rfl)) rfl
theorem b_374 : Cond.code yX12_areLetters cX12_areLetters 2 (some .boolean) ∈ BIG := bi (tin_8 _ (List.mem_of_getElem? (i := 228) rfl)) rfl
theorem b_375 : Cond.instanceMethod yX12_areLetters ∈ BIG := bi (tin_8 _ (List.mem_of_getElem? (i := 227) rfl)) rfl
theorem b_376 : Cond.selects RX12 yX12_areLetters yX12_areLetters ∈ BIG := bi (sin_11 _ (List.mem_map.mpr ⟨(yX12_areLetters, 29), List.mem_of_getElem? (i := 2) rfl, rfl⟩)) rfl
theorem b_377 : Cond.initialized RX12 ∈ BIG := bi (tin_1 _ (List.mem_of_getElem? (i := 13) rfl)) rfl
theorem b_378 : Cond.code yX12_asksOrder cX12_asksOrder 4 (some .int) ∈ BIG := bi (tin_8 _ (List.mem_of_getElem? (i := 143) rfl)) rfl
theorem b_379 : Cond.instanceMethod yX12_asksOrder ∈ BIG := bi (tin_8 _ (List.mem_of_getElem? (i := 142) rfl)) rfl
theorem b_380 : Cond.selects RX12 yX12_asksOrder yX12_asksOrder ∈ BIG := bi (sin_10 _ (List.mem_map.mpr ⟨(yX12_asksOrder, 29), List.mem_of_getElem? (i := 9) rfl, rfl⟩)) rfl
theorem b_381 : Cond.code yX12_asksWeek cX12_asksWeek 4 (some .int) ∈ BIG := bi (tin_7 _ (List.mem_of_getElem? (i := 215) rfl)) rfl
theorem b_382 : Cond.instanceMethod yX12_asksWeek ∈ BIG := bi (tin_7 _ (List.mem_of_getElem? (i := 214) rfl)) rfl
theorem b_383 : Cond.selects RX12 yX12_asksWeek yX12_asksWeek ∈ BIG := bi (sin_9 _ (List.mem_map.mpr ⟨(yX12_asksWeek, 29), List.mem_of_getElem? (i := 10) rfl, rfl⟩)) rfl
theorem b_384 : Cond.code yX12_in cX12_in 6 (some .boolean) ∈ BIG := bi (tin_6 _ (List.mem_of_getElem? (i := 196) rfl)) rfl
theorem b_385 : Cond.static yX12_in ∈ BIG := bi (tin_6 _ (List.mem_of_getElem? (i := 195) rfl)) rfl
theorem b_386 : Cond.code yX12_isBelief cX12_isBelief 2 (some .boolean) ∈ BIG := bi (tin_7 _ (List.mem_of_getElem? (i := 149) rfl)) rfl
theorem b_387 : Cond.instanceMethod yX12_isBelief ∈ BIG := bi (tin_7 _ (List.mem_of_getElem? (i := 148) rfl)) rfl
theorem b_388 : Cond.selects RX12 yX12_isBelief yX12_isBelief ∈ BIG := bi (sin_9 _ (List.mem_map.mpr ⟨(yX12_isBelief, 29), List.mem_of_getElem? (i := 1) rfl, rfl⟩)) rfl
theorem b_389 : Cond.code yX12_isDesk cX12_isDesk 1 (some .boolean) ∈ BIG := bi (tin_7 _ (List.mem_of_getElem? (i := 153) rfl)) rfl
theorem b_390 : Cond.instanceMethod yX12_isDesk ∈ BIG := bi (tin_7 _ (List.mem_of_getElem? (i := 152) rfl)) rfl
theorem b_391 : Cond.selects RX12 yX12_isDesk yX12_isDesk ∈ BIG := bi (sin_9 _ (List.mem_map.mpr ⟨(yX12_isDesk, 29), List.mem_of_getElem? (i := 2) rfl, rfl⟩)) rfl
theorem b_392 : Cond.code yX12_isHearer cX12_isHearer 2 (some .boolean) ∈ BIG := bi (tin_7 _ (List.mem_of_getElem? (i := 90) rfl)) rfl
theorem b_393 : Cond.instanceMethod yX12_isHearer ∈ BIG := bi (tin_7 _ (List.mem_of_getElem? (i := 89) rfl)) rfl
theorem b_394 : Cond.selects RX12 yX12_isHearer yX12_isHearer ∈ BIG := bi (sin_8 _ (List.mem_map.mpr ⟨(yX12_isHearer, 29), List.mem_of_getElem? (i := 8) rfl, rfl⟩)) rfl
theorem b_395 : Cond.code yX12_isPlan cX12_isPlan 2 (some .boolean) ∈ BIG := bi (tin_7 _ (List.mem_of_getElem? (i := 125) rfl)) rfl
theorem b_396 : Cond.instanceMethod yX12_isPlan ∈ BIG := bi (tin_7 _ (List.mem_of_getElem? (i := 124) rfl)) rfl
theorem b_397 : Cond.selects RX12 yX12_isPlan yX12_isPlan ∈ BIG := bi (sin_8 _ (List.mem_map.mpr ⟨(yX12_isPlan, 29), List.mem_of_getElem? (i := 14) rfl, rfl⟩)) rfl
theorem b_398 : Cond.code yX12_isSeed cX12_isSeed 1 (some .boolean) ∈ BIG := bi (tin_9 _ (List.mem_of_getElem? (i := 74) rfl)) rfl
theorem b_399 : Cond.static yX12_isSeed ∈ BIG := bi (tin_9 _ (List.mem_of_getElem? (i := 73) rfl)) rfl
theorem b_400 : Cond.code yX12_isSlot cX12_isSlot 1 (some .boolean) ∈ BIG := bi (tin_7 _ (List.mem_of_getElem? (i := 218) rfl)) rfl
theorem b_401 : Cond.static yX12_isSlot ∈ BIG := bi (tin_7 _ (List.mem_of_getElem? (i := 217) rfl)) rfl
theorem b_402 : Cond.code yX12_isState cX12_isState 2 (some .boolean) ∈ BIG := bi (tin_7 _ (List.mem_of_getElem? (i := 82) rfl)) rfl
theorem b_403 : Cond.instanceMethod yX12_isState ∈ BIG := bi (tin_7 _ (List.mem_of_getElem? (i := 81) rfl)) rfl
theorem b_404 : Cond.selects RX12 yX12_isState yX12_isState ∈ BIG := bi (sin_8 _ (List.mem_map.mpr ⟨(yX12_isState, 29), List.mem_of_getElem? (i := 7) rfl, rfl⟩)) rfl
theorem b_405 : Cond.code yX12_isWord cX12_isWord 3 (some .boolean) ∈ BIG := bi (tin_7 _ (List.mem_of_getElem? (i := 106) rfl)) rfl
theorem b_406 : Cond.instanceMethod yX12_isWord ∈ BIG := bi (tin_7 _ (List.mem_of_getElem? (i := 105) rfl)) rfl
theorem b_407 : Cond.selects RX12 yX12_isWord yX12_isWord ∈ BIG := bi (sin_8 _ (List.mem_map.mpr ⟨(yX12_isWord, 29), List.mem_of_getElem? (i := 11) rfl, rfl⟩)) rfl
theorem b_408 : Cond.lays RX12 RX12 "thrown" "I" ∈ BIG := bi (tin_6 _ (List.mem_of_getElem? (i := 130) rfl)) rfl
theorem b_409 : Cond.laysFinal RX12 RX12 "world" "[I" ∈ BIG := bi (tin_6 _ (List.mem_of_getElem? (i := 132) rfl)) rfl
theorem b_410 : Cond.laysFinal RX12 RX12 "images" "[I" ∈ BIG := bi (tin_6 _ (List.mem_of_getElem? (i := 134) rfl)) rfl
theorem b_411 : Cond.laysFinal RX12 RX12 "hasImage" "[Z" ∈ BIG := bi (tin_6 _ (List.mem_of_getElem? (i := 136) rfl)) rfl
theorem b_412 : Cond.laysFinal RX12 RX12 "tape" "[B" ∈ BIG := bi (tin_6 _ (List.mem_of_getElem? (i := 138) rfl)) rfl
theorem b_413 : Cond.lays RX12 RX12 "taped" "I" ∈ BIG := bi (tin_6 _ (List.mem_of_getElem? (i := 140) rfl)) rfl
theorem b_414 : Cond.laysFinal RX12 RX12 "five" "[I" ∈ BIG := bi (tin_6 _ (List.mem_of_getElem? (i := 142) rfl)) rfl
theorem b_415 : Cond.lays RX12 RX12 "size" "I" ∈ BIG := bi (tin_6 _ (List.mem_of_getElem? (i := 144) rfl)) rfl
theorem b_416 : Cond.lays RX12 RX12 "at" "I" ∈ BIG := bi (tin_6 _ (List.mem_of_getElem? (i := 146) rfl)) rfl
theorem b_417 : Cond.lays RX12 RX12 "from" "I" ∈ BIG := bi (tin_6 _ (List.mem_of_getElem? (i := 148) rfl)) rfl
theorem b_418 : Cond.lays RX12 RX12 "token" "I" ∈ BIG := bi (tin_6 _ (List.mem_of_getElem? (i := 150) rfl)) rfl
theorem b_419 : Cond.lays RX12 RX12 "value" "I" ∈ BIG := bi (tin_6 _ (List.mem_of_getElem? (i := 152) rfl)) rfl
theorem b_420 : Cond.lays RX12 RX12 "faultKind" "I" ∈ BIG := bi (tin_6 _ (List.mem_of_getElem? (i := 154) rfl)) rfl
theorem b_421 : Cond.lays RX12 RX12 "faultPlace" "I" ∈ BIG := bi (tin_6 _ (List.mem_of_getElem? (i := 156) rfl)) rfl
theorem b_422 : Cond.laysFinal RX12 RX12 "fresh" "[I" ∈ BIG := bi (tin_6 _ (List.mem_of_getElem? (i := 158) rfl)) rfl
theorem b_423 : Cond.laysFinal RX12 RX12 "best" "[I" ∈ BIG := bi (tin_6 _ (List.mem_of_getElem? (i := 160) rfl)) rfl
theorem b_424 : Cond.lays RX12 RX12 "goal" "I" ∈ BIG := bi (tin_6 _ (List.mem_of_getElem? (i := 162) rfl)) rfl
theorem b_425 : Cond.lays RX12 RX12 "goalDays" "I" ∈ BIG := bi (tin_6 _ (List.mem_of_getElem? (i := 164) rfl)) rfl
theorem b_426 : Cond.lays RX12 RX12 "goalHearer" "I" ∈ BIG := bi (tin_6 _ (List.mem_of_getElem? (i := 166) rfl)) rfl
theorem b_427 : Cond.laysFinal RX12 RX12 "order" "[I" ∈ BIG := bi (tin_6 _ (List.mem_of_getElem? (i := 168) rfl)) rfl
theorem b_428 : Cond.laysFinal RX12 RX12 "bestOrder" "[I" ∈ BIG := bi (tin_6 _ (List.mem_of_getElem? (i := 170) rfl)) rfl
theorem b_429 : Cond.lays RX12 RX12 "leastOrder" "I" ∈ BIG := bi (tin_6 _ (List.mem_of_getElem? (i := 172) rfl)) rfl
theorem b_430 : Cond.lays RX12 RX12 "wordsMany" "I" ∈ BIG := bi (tin_6 _ (List.mem_of_getElem? (i := 174) rfl)) rfl
theorem b_431 : Cond.laysFinal RX12 RX12 "letters" "[I" ∈ BIG := bi (tin_6 _ (List.mem_of_getElem? (i := 176) rfl)) rfl
theorem b_432 : Cond.laysFinal RX12 RX12 "bestLetters" "[I" ∈ BIG := bi (tin_6 _ (List.mem_of_getElem? (i := 178) rfl)) rfl
theorem b_433 : Cond.laysFinal RX12 RX12 "many" "[I" ∈ BIG := bi (tin_6 _ (List.mem_of_getElem? (i := 180) rfl)) rfl
theorem b_434 : Cond.laysFinal RX12 RX12 "width" "[I" ∈ BIG := bi (tin_6 _ (List.mem_of_getElem? (i := 182) rfl)) rfl
theorem b_435 : Cond.laysFinal RX12 RX12 "numbers" "[J" ∈ BIG := bi (tin_6 _ (List.mem_of_getElem? (i := 184) rfl)) rfl
theorem b_436 : Cond.laysFinal RX12 RX12 "moving" "[J" ∈ BIG := bi (tin_6 _ (List.mem_of_getElem? (i := 186) rfl)) rfl
theorem m_yX12_areLetters : MV yX12_areLetters cX12_areLetters 2 (some .boolean) 1 := ⟨b_374, b_375, b_376, b_377, by decide +kernel⟩
theorem m_yX12_asksOrder : MV yX12_asksOrder cX12_asksOrder 4 (some .int) 2 := ⟨b_378, b_379, b_380, b_377, by decide +kernel⟩
theorem m_yX12_asksWeek : MV yX12_asksWeek cX12_asksWeek 4 (some .int) 2 := ⟨b_381, b_382, b_383, b_377, by decide +kernel⟩
theorem m_yX12_in : MS yX12_in cX12_in 6 (some .boolean) 3 := ⟨b_384, b_385, b_377, by decide +kernel⟩
theorem m_yX12_isBelief : MV yX12_isBelief cX12_isBelief 2 (some .boolean) 1 := ⟨b_386, b_387, b_388, b_377, by decide +kernel⟩
theorem m_yX12_isDesk : MV yX12_isDesk cX12_isDesk 1 (some .boolean) 0 := ⟨b_389, b_390, b_391, b_377, by decide +kernel⟩
theorem m_yX12_isHearer : MV yX12_isHearer cX12_isHearer 2 (some .boolean) 1 := ⟨b_392, b_393, b_394, b_377, by decide +kernel⟩
theorem m_yX12_isPlan : MV yX12_isPlan cX12_isPlan 2 (some .boolean) 1 := ⟨b_395, b_396, b_397, b_377, by decide +kernel⟩
theorem m_yX12_isSeed : MS yX12_isSeed cX12_isSeed 1 (some .boolean) 1 := ⟨b_398, b_399, b_377, by decide +kernel⟩
theorem m_yX12_isSlot : MS yX12_isSlot cX12_isSlot 1 (some .boolean) 1 := ⟨b_400, b_401, b_377, by decide +kernel⟩
theorem m_yX12_isState : MV yX12_isState cX12_isState 2 (some .boolean) 1 := ⟨b_402, b_403, b_404, b_377, by decide +kernel⟩
theorem m_yX12_isWord : MV yX12_isWord cX12_isWord 3 (some .boolean) 1 := ⟨b_405, b_406, b_407, b_377, by decide +kernel⟩
theorem i_X12 : ∀ w ∈ u_ws RX12 TX12 29, w ∈ BIG := fun w hw => by
  obtain ⟨k, hk, rfl⟩ := List.mem_map.mp hw
  have hk := List.mem_range.mp hk
  match k, hk with
  | 0, _ => exact b_408
  | 1, _ => exact b_409
  | 2, _ => exact b_410
  | 3, _ => exact b_411
  | 4, _ => exact b_412
  | 5, _ => exact b_413
  | 6, _ => exact b_414
  | 7, _ => exact b_415
  | 8, _ => exact b_416
  | 9, _ => exact b_417
  | 10, _ => exact b_418
  | 11, _ => exact b_419
  | 12, _ => exact b_420
  | 13, _ => exact b_421
  | 14, _ => exact b_422
  | 15, _ => exact b_423
  | 16, _ => exact b_424
  | 17, _ => exact b_425
  | 18, _ => exact b_426
  | 19, _ => exact b_427
  | 20, _ => exact b_428
  | 21, _ => exact b_429
  | 22, _ => exact b_430
  | 23, _ => exact b_431
  | 24, _ => exact b_432
  | 25, _ => exact b_433
  | 26, _ => exact b_434
  | 27, _ => exact b_435
  | 28, _ => exact b_436
  | k + 29, hk => exact absurd hk (by omega)
theorem dX12_all_0 : decode cX12_all 0 = .ok (.aload_n 0, 1) := by decide +kernel
theorem dX12_all_1 : decode cX12_all 1 = .ok (.invokevirtual 77, 3) := by decide +kernel
theorem dX12_all_4 : decode cX12_all 4 = .ok (.ifCond .eq 11, 3) := by decide +kernel
theorem dX12_all_15 : decode cX12_all 15 = .ok (.bipush (-2), 2) := by decide +kernel
theorem dX12_all_17 : decode cX12_all 17 = .ok (.ireturn, 1) := by decide +kernel
theorem dX12_areLetters_0 : decode cX12_areLetters 0 = .ok (.aload_n 0, 1) := by decide +kernel
theorem dX12_areLetters_1 : decode cX12_areLetters 1 = .ok (.invokevirtual 77, 3) := by decide +kernel
theorem dX12_areLetters_4 : decode cX12_areLetters 4 = .ok (.ifCond .eq 19, 3) := by decide +kernel
theorem dX12_areLetters_23 : decode cX12_areLetters 23 = .ok (.iconst 0, 1) := by decide +kernel
theorem dX12_areLetters_24 : decode cX12_areLetters 24 = .ok (.ireturn, 1) := by decide +kernel
theorem dX12_asksOrder_0 : decode cX12_asksOrder 0 = .ok (.aload_n 0, 1) := by decide +kernel
theorem dX12_asksOrder_1 : decode cX12_asksOrder 1 = .ok (.iload_n 1, 1) := by decide +kernel
theorem dX12_asksOrder_2 : decode cX12_asksOrder 2 = .ok (.aload_n 0, 1) := by decide +kernel
theorem dX12_asksOrder_3 : decode cX12_asksOrder 3 = .ok (.iload_n 2, 1) := by decide +kernel
theorem dX12_asksOrder_4 : decode cX12_asksOrder 4 = .ok (.invokevirtual 258, 3) := by decide +kernel
theorem dX12_asksOrder_7 : decode cX12_asksOrder 7 = .ok (.invokevirtual 299, 3) := by decide +kernel
theorem dX12_asksOrder_10 : decode cX12_asksOrder 10 = .ok (.istore_n 3, 1) := by decide +kernel
theorem dX12_asksOrder_11 : decode cX12_asksOrder 11 = .ok (.iload_n 3, 1) := by decide +kernel
theorem dX12_asksOrder_12 : decode cX12_asksOrder 12 = .ok (.ifCond .ge 7, 3) := by decide +kernel
theorem dX12_asksOrder_15 : decode cX12_asksOrder 15 = .ok (.iload_n 3, 1) := by decide +kernel
theorem dX12_asksOrder_16 : decode cX12_asksOrder 16 = .ok (.goto 20, 3) := by decide +kernel
theorem dX12_asksOrder_36 : decode cX12_asksOrder 36 = .ok (.ireturn, 1) := by decide +kernel
theorem dX12_asksWeek_0 : decode cX12_asksWeek 0 = .ok (.iload_n 1, 1) := by decide +kernel
theorem dX12_asksWeek_1 : decode cX12_asksWeek 1 = .ok (.invokestatic 296, 3) := by decide +kernel
theorem dX12_asksWeek_4 : decode cX12_asksWeek 4 = .ok (.ifCond .eq 14, 3) := by decide +kernel
theorem dX12_asksWeek_7 : decode cX12_asksWeek 7 = .ok (.aload_n 0, 1) := by decide +kernel
theorem dX12_asksWeek_8 : decode cX12_asksWeek 8 = .ok (.invokevirtual 77, 3) := by decide +kernel
theorem dX12_asksWeek_11 : decode cX12_asksWeek 11 = .ok (.ifCond .eq 7, 3) := by decide +kernel
theorem dX12_asksWeek_18 : decode cX12_asksWeek 18 = .ok (.bipush (-2), 2) := by decide +kernel
theorem dX12_asksWeek_20 : decode cX12_asksWeek 20 = .ok (.ireturn, 1) := by decide +kernel
theorem dX12_behind_0 : decode cX12_behind 0 = .ok (.aload_n 0, 1) := by decide +kernel
theorem dX12_behind_1 : decode cX12_behind 1 = .ok (.iload_n 1, 1) := by decide +kernel
theorem dX12_behind_2 : decode cX12_behind 2 = .ok (.invokevirtual 273, 3) := by decide +kernel
theorem dX12_behind_5 : decode cX12_behind 5 = .ok (.ifCond .eq 21, 3) := by decide +kernel
theorem dX12_behind_26 : decode cX12_behind 26 = .ok (.bipush (-2), 2) := by decide +kernel
theorem dX12_behind_28 : decode cX12_behind 28 = .ok (.ireturn, 1) := by decide +kernel
theorem dX12_believes_0 : decode cX12_believes 0 = .ok (.aload_n 0, 1) := by decide +kernel
theorem dX12_believes_1 : decode cX12_believes 1 = .ok (.iload_n 1, 1) := by decide +kernel
theorem dX12_believes_2 : decode cX12_believes 2 = .ok (.iconst 1, 1) := by decide +kernel
theorem dX12_believes_3 : decode cX12_believes 3 = .ok (.invokevirtual 299, 3) := by decide +kernel
theorem dX12_believes_6 : decode cX12_believes 6 = .ok (.istore_n 2, 1) := by decide +kernel
theorem dX12_believes_7 : decode cX12_believes 7 = .ok (.iload_n 2, 1) := by decide +kernel
theorem dX12_believes_8 : decode cX12_believes 8 = .ok (.ifCond .ge 5, 3) := by decide +kernel
theorem dX12_believes_11 : decode cX12_believes 11 = .ok (.iload_n 2, 1) := by decide +kernel
theorem dX12_believes_12 : decode cX12_believes 12 = .ok (.ireturn, 1) := by decide +kernel
theorem dX12_calm_0 : decode cX12_calm 0 = .ok (.aload_n 0, 1) := by decide +kernel
theorem dX12_calm_1 : decode cX12_calm 1 = .ok (.iload_n 1, 1) := by decide +kernel
theorem dX12_calm_2 : decode cX12_calm 2 = .ok (.invokevirtual 258, 3) := by decide +kernel
theorem dX12_calm_5 : decode cX12_calm 5 = .ok (.ifCond .eq 11, 3) := by decide +kernel
theorem dX12_calm_16 : decode cX12_calm 16 = .ok (.bipush (-2), 2) := by decide +kernel
theorem dX12_calm_18 : decode cX12_calm 18 = .ok (.ireturn, 1) := by decide +kernel
theorem dX12_chance_0 : decode cX12_chance 0 = .ok (.aload_n 0, 1) := by decide +kernel
theorem dX12_chance_1 : decode cX12_chance 1 = .ok (.iload_n 1, 1) := by decide +kernel
theorem dX12_chance_2 : decode cX12_chance 2 = .ok (.invokevirtual 258, 3) := by decide +kernel
theorem dX12_chance_5 : decode cX12_chance 5 = .ok (.ifCond .eq 42, 3) := by decide +kernel
theorem dX12_chance_47 : decode cX12_chance 47 = .ok (.bipush (-2), 2) := by decide +kernel
theorem dX12_chance_49 : decode cX12_chance 49 = .ok (.ireturn, 1) := by decide +kernel
theorem dX12_doubt_0 : decode cX12_doubt 0 = .ok (.aload_n 0, 1) := by decide +kernel
theorem dX12_doubt_1 : decode cX12_doubt 1 = .ok (.iload_n 1, 1) := by decide +kernel
theorem dX12_doubt_2 : decode cX12_doubt 2 = .ok (.invokevirtual 258, 3) := by decide +kernel
theorem dX12_doubt_5 : decode cX12_doubt 5 = .ok (.ifCond .eq 40, 3) := by decide +kernel
theorem dX12_doubt_45 : decode cX12_doubt 45 = .ok (.bipush (-2), 2) := by decide +kernel
theorem dX12_doubt_47 : decode cX12_doubt 47 = .ok (.ireturn, 1) := by decide +kernel
theorem dX12_drawn_0 : decode cX12_drawn 0 = .ok (.aload_n 0, 1) := by decide +kernel
theorem dX12_drawn_1 : decode cX12_drawn 1 = .ok (.iload_n 2, 1) := by decide +kernel
theorem dX12_drawn_2 : decode cX12_drawn 2 = .ok (.iload_n 1, 1) := by decide +kernel
theorem dX12_drawn_3 : decode cX12_drawn 3 = .ok (.invokestatic 438, 3) := by decide +kernel
theorem dX12_drawn_6 : decode cX12_drawn 6 = .ok (.ifCond .eq 26, 3) := by decide +kernel
theorem dX12_drawn_9 : decode cX12_drawn 9 = .ok (.aload_n 0, 1) := by decide +kernel
theorem dX12_drawn_10 : decode cX12_drawn 10 = .ok (.iload_n 3, 1) := by decide +kernel
theorem dX12_drawn_11 : decode cX12_drawn 11 = .ok (.invokevirtual 258, 3) := by decide +kernel
theorem dX12_drawn_14 : decode cX12_drawn 14 = .ok (.ifCond .eq 18, 3) := by decide +kernel
theorem dX12_drawn_32 : decode cX12_drawn 32 = .ok (.iconst 0, 1) := by decide +kernel
theorem dX12_drawn_33 : decode cX12_drawn 33 = .ok (.invokevirtual 299, 3) := by decide +kernel
theorem dX12_drawn_36 : decode cX12_drawn 36 = .ok (.istore 5, 2) := by decide +kernel
theorem dX12_drawn_38 : decode cX12_drawn 38 = .ok (.iload 5, 2) := by decide +kernel
theorem dX12_drawn_40 : decode cX12_drawn 40 = .ok (.ifCond .ge 6, 3) := by decide +kernel
theorem dX12_drawn_43 : decode cX12_drawn 43 = .ok (.iload 5, 2) := by decide +kernel
theorem dX12_drawn_45 : decode cX12_drawn 45 = .ok (.ireturn, 1) := by decide +kernel
theorem dX12_ends_0 : decode cX12_ends 0 = .ok (.aload_n 0, 1) := by decide +kernel
theorem dX12_ends_1 : decode cX12_ends 1 = .ok (.iload_n 1, 1) := by decide +kernel
theorem dX12_ends_2 : decode cX12_ends 2 = .ok (.invokevirtual 264, 3) := by decide +kernel
theorem dX12_ends_5 : decode cX12_ends 5 = .ok (.ifCond .eq 11, 3) := by decide +kernel
theorem dX12_ends_16 : decode cX12_ends 16 = .ok (.bipush (-2), 2) := by decide +kernel
theorem dX12_ends_18 : decode cX12_ends 18 = .ok (.ireturn, 1) := by decide +kernel
theorem dX12_enough_0 : decode cX12_enough 0 = .ok (.aload_n 0, 1) := by decide +kernel
theorem dX12_enough_1 : decode cX12_enough 1 = .ok (.iload_n 1, 1) := by decide +kernel
theorem dX12_enough_2 : decode cX12_enough 2 = .ok (.invokevirtual 258, 3) := by decide +kernel
theorem dX12_enough_5 : decode cX12_enough 5 = .ok (.ifCond .ne 6, 3) := by decide +kernel
theorem dX12_enough_8 : decode cX12_enough 8 = .ok (.bipush (-2), 2) := by decide +kernel
theorem dX12_enough_10 : decode cX12_enough 10 = .ok (.ireturn, 1) := by decide +kernel
theorem dX12_fewest_0 : decode cX12_fewest 0 = .ok (.aload_n 0, 1) := by decide +kernel
theorem dX12_fewest_1 : decode cX12_fewest 1 = .ok (.invokevirtual 77, 3) := by decide +kernel
theorem dX12_fewest_4 : decode cX12_fewest 4 = .ok (.ifCond .eq 12, 3) := by decide +kernel
theorem dX12_fewest_16 : decode cX12_fewest 16 = .ok (.bipush (-2), 2) := by decide +kernel
theorem dX12_fewest_18 : decode cX12_fewest 18 = .ok (.ireturn, 1) := by decide +kernel
theorem dX12_first_0 : decode cX12_first 0 = .ok (.aload_n 0, 1) := by decide +kernel
theorem dX12_first_1 : decode cX12_first 1 = .ok (.invokevirtual 77, 3) := by decide +kernel
theorem dX12_first_4 : decode cX12_first 4 = .ok (.ifCond .eq 10, 3) := by decide +kernel
theorem dX12_first_14 : decode cX12_first 14 = .ok (.bipush (-2), 2) := by decide +kernel
theorem dX12_first_16 : decode cX12_first 16 = .ok (.ireturn, 1) := by decide +kernel
theorem dX12_gentlest_0 : decode cX12_gentlest 0 = .ok (.aload_n 0, 1) := by decide +kernel
theorem dX12_gentlest_1 : decode cX12_gentlest 1 = .ok (.iload_n 1, 1) := by decide +kernel
theorem dX12_gentlest_2 : decode cX12_gentlest 2 = .ok (.invokevirtual 258, 3) := by decide +kernel
theorem dX12_gentlest_5 : decode cX12_gentlest 5 = .ok (.ifCond .eq 12, 3) := by decide +kernel
theorem dX12_gentlest_17 : decode cX12_gentlest 17 = .ok (.bipush (-2), 2) := by decide +kernel
theorem dX12_gentlest_19 : decode cX12_gentlest 19 = .ok (.ireturn, 1) := by decide +kernel
theorem dX12_gently_0 : decode cX12_gently 0 = .ok (.aload_n 0, 1) := by decide +kernel
theorem dX12_gently_1 : decode cX12_gently 1 = .ok (.iload_n 1, 1) := by decide +kernel
theorem dX12_gently_2 : decode cX12_gently 2 = .ok (.invokevirtual 258, 3) := by decide +kernel
theorem dX12_gently_5 : decode cX12_gently 5 = .ok (.ifCond .eq 21, 3) := by decide +kernel
theorem dX12_gently_26 : decode cX12_gently 26 = .ok (.bipush (-2), 2) := by decide +kernel
theorem dX12_gently_28 : decode cX12_gently 28 = .ok (.ireturn, 1) := by decide +kernel
theorem dX12_grade_0 : decode cX12_grade 0 = .ok (.aload_n 0, 1) := by decide +kernel
theorem dX12_grade_1 : decode cX12_grade 1 = .ok (.iload_n 1, 1) := by decide +kernel
theorem dX12_grade_2 : decode cX12_grade 2 = .ok (.invokevirtual 255, 3) := by decide +kernel
theorem dX12_grade_5 : decode cX12_grade 5 = .ok (.ifCond .eq 15, 3) := by decide +kernel
theorem dX12_grade_20 : decode cX12_grade 20 = .ok (.bipush (-2), 2) := by decide +kernel
theorem dX12_grade_22 : decode cX12_grade 22 = .ok (.ireturn, 1) := by decide +kernel
theorem dX12_guess_0 : decode cX12_guess 0 = .ok (.aload_n 0, 1) := by decide +kernel
theorem dX12_guess_1 : decode cX12_guess 1 = .ok (.iload_n 1, 1) := by decide +kernel
theorem dX12_guess_2 : decode cX12_guess 2 = .ok (.aload_n 0, 1) := by decide +kernel
theorem dX12_guess_3 : decode cX12_guess 3 = .ok (.iload_n 2, 1) := by decide +kernel
theorem dX12_guess_4 : decode cX12_guess 4 = .ok (.invokevirtual 258, 3) := by decide +kernel
theorem dX12_guess_7 : decode cX12_guess 7 = .ok (.invokevirtual 299, 3) := by decide +kernel
theorem dX12_guess_10 : decode cX12_guess 10 = .ok (.istore_n 3, 1) := by decide +kernel
theorem dX12_guess_11 : decode cX12_guess 11 = .ok (.iload_n 3, 1) := by decide +kernel
theorem dX12_guess_12 : decode cX12_guess 12 = .ok (.ifCond .ge 5, 3) := by decide +kernel
theorem dX12_guess_15 : decode cX12_guess 15 = .ok (.iload_n 3, 1) := by decide +kernel
theorem dX12_guess_16 : decode cX12_guess 16 = .ok (.ireturn, 1) := by decide +kernel
theorem dX12_heard_0 : decode cX12_heard 0 = .ok (.aload_n 0, 1) := by decide +kernel
theorem dX12_heard_1 : decode cX12_heard 1 = .ok (.invokevirtual 77, 3) := by decide +kernel
theorem dX12_heard_4 : decode cX12_heard 4 = .ok (.ifCond .eq 30, 3) := by decide +kernel
theorem dX12_heard_34 : decode cX12_heard 34 = .ok (.bipush (-2), 2) := by decide +kernel
theorem dX12_heard_36 : decode cX12_heard 36 = .ok (.ireturn, 1) := by decide +kernel
theorem dX12_honest_0 : decode cX12_honest 0 = .ok (.aload_n 0, 1) := by decide +kernel
theorem dX12_honest_1 : decode cX12_honest 1 = .ok (.iload_n 1, 1) := by decide +kernel
theorem dX12_honest_2 : decode cX12_honest 2 = .ok (.invokevirtual 258, 3) := by decide +kernel
theorem dX12_honest_5 : decode cX12_honest 5 = .ok (.ifCond .eq 21, 3) := by decide +kernel
theorem dX12_honest_26 : decode cX12_honest 26 = .ok (.bipush (-2), 2) := by decide +kernel
theorem dX12_honest_28 : decode cX12_honest 28 = .ok (.ireturn, 1) := by decide +kernel
theorem dX12_hope_0 : decode cX12_hope 0 = .ok (.aload_n 0, 1) := by decide +kernel
theorem dX12_hope_1 : decode cX12_hope 1 = .ok (.iload_n 1, 1) := by decide +kernel
theorem dX12_hope_2 : decode cX12_hope 2 = .ok (.aload_n 0, 1) := by decide +kernel
theorem dX12_hope_3 : decode cX12_hope 3 = .ok (.iload_n 2, 1) := by decide +kernel
theorem dX12_hope_4 : decode cX12_hope 4 = .ok (.invokevirtual 258, 3) := by decide +kernel
theorem dX12_hope_7 : decode cX12_hope 7 = .ok (.ifCond .eq 26, 3) := by decide +kernel
theorem dX12_hope_33 : decode cX12_hope 33 = .ok (.iconst 0, 1) := by decide +kernel
theorem dX12_hope_34 : decode cX12_hope 34 = .ok (.invokevirtual 299, 3) := by decide +kernel
theorem dX12_hope_37 : decode cX12_hope 37 = .ok (.istore 5, 2) := by decide +kernel
theorem dX12_hope_39 : decode cX12_hope 39 = .ok (.iload 5, 2) := by decide +kernel
theorem dX12_hope_41 : decode cX12_hope 41 = .ok (.ifCond .ge 6, 3) := by decide +kernel
theorem dX12_hope_44 : decode cX12_hope 44 = .ok (.iload 5, 2) := by decide +kernel
theorem dX12_hope_46 : decode cX12_hope 46 = .ok (.ireturn, 1) := by decide +kernel
theorem dX12_hurt_0 : decode cX12_hurt 0 = .ok (.aload_n 0, 1) := by decide +kernel
theorem dX12_hurt_1 : decode cX12_hurt 1 = .ok (.iload_n 1, 1) := by decide +kernel
theorem dX12_hurt_2 : decode cX12_hurt 2 = .ok (.invokevirtual 258, 3) := by decide +kernel
theorem dX12_hurt_5 : decode cX12_hurt 5 = .ok (.ifCond .eq 30, 3) := by decide +kernel
theorem dX12_hurt_35 : decode cX12_hurt 35 = .ok (.bipush (-2), 2) := by decide +kernel
theorem dX12_hurt_37 : decode cX12_hurt 37 = .ok (.ireturn, 1) := by decide +kernel
theorem dX12_hurts_0 : decode cX12_hurts 0 = .ok (.aload_n 0, 1) := by decide +kernel
theorem dX12_hurts_1 : decode cX12_hurts 1 = .ok (.iload_n 1, 1) := by decide +kernel
theorem dX12_hurts_2 : decode cX12_hurts 2 = .ok (.aload_n 0, 1) := by decide +kernel
theorem dX12_hurts_3 : decode cX12_hurts 3 = .ok (.iload_n 2, 1) := by decide +kernel
theorem dX12_hurts_4 : decode cX12_hurts 4 = .ok (.invokevirtual 258, 3) := by decide +kernel
theorem dX12_hurts_7 : decode cX12_hurts 7 = .ok (.invokevirtual 299, 3) := by decide +kernel
theorem dX12_hurts_10 : decode cX12_hurts 10 = .ok (.istore_n 3, 1) := by decide +kernel
theorem dX12_hurts_11 : decode cX12_hurts 11 = .ok (.iload_n 3, 1) := by decide +kernel
theorem dX12_hurts_12 : decode cX12_hurts 12 = .ok (.ifCond .ge 7, 3) := by decide +kernel
theorem dX12_hurts_15 : decode cX12_hurts 15 = .ok (.iload_n 3, 1) := by decide +kernel
theorem dX12_hurts_16 : decode cX12_hurts 16 = .ok (.goto 10, 3) := by decide +kernel
theorem dX12_hurts_26 : decode cX12_hurts 26 = .ok (.ireturn, 1) := by decide +kernel
theorem dX12_idle_0 : decode cX12_idle 0 = .ok (.aload_n 0, 1) := by decide +kernel
theorem dX12_idle_1 : decode cX12_idle 1 = .ok (.invokevirtual 77, 3) := by decide +kernel
theorem dX12_idle_4 : decode cX12_idle 4 = .ok (.ifCond .ne 6, 3) := by decide +kernel
theorem dX12_idle_7 : decode cX12_idle 7 = .ok (.bipush (-2), 2) := by decide +kernel
theorem dX12_idle_9 : decode cX12_idle 9 = .ok (.ireturn, 1) := by decide +kernel
theorem dX12_in_0 : decode cX12_in 0 = .ok (.lload_n 0, 1) := by decide +kernel
theorem dX12_in_1 : decode cX12_in 1 = .ok (.lload_n 2, 1) := by decide +kernel
theorem dX12_in_2 : decode cX12_in 2 = .ok (.lcmp, 1) := by decide +kernel
theorem dX12_in_3 : decode cX12_in 3 = .ok (.ifCond .lt 14, 3) := by decide +kernel
theorem dX12_in_6 : decode cX12_in 6 = .ok (.lload_n 0, 1) := by decide +kernel
theorem dX12_in_7 : decode cX12_in 7 = .ok (.lload 4, 2) := by decide +kernel
theorem dX12_in_9 : decode cX12_in 9 = .ok (.lcmp, 1) := by decide +kernel
theorem dX12_in_10 : decode cX12_in 10 = .ok (.ifCond .gt 7, 3) := by decide +kernel
theorem dX12_in_13 : decode cX12_in 13 = .ok (.iconst 1, 1) := by decide +kernel
theorem dX12_in_14 : decode cX12_in 14 = .ok (.goto 4, 3) := by decide +kernel
theorem dX12_in_17 : decode cX12_in 17 = .ok (.iconst 0, 1) := by decide +kernel
theorem dX12_in_18 : decode cX12_in 18 = .ok (.ireturn, 1) := by decide +kernel
theorem dX12_isBelief_0 : decode cX12_isBelief 0 = .ok (.aload_n 0, 1) := by decide +kernel
theorem dX12_isBelief_1 : decode cX12_isBelief 1 = .ok (.invokevirtual 77, 3) := by decide +kernel
theorem dX12_isBelief_4 : decode cX12_isBelief 4 = .ok (.ifCond .eq 21, 3) := by decide +kernel
theorem dX12_isBelief_25 : decode cX12_isBelief 25 = .ok (.iconst 0, 1) := by decide +kernel
theorem dX12_isBelief_26 : decode cX12_isBelief 26 = .ok (.ireturn, 1) := by decide +kernel
theorem dX12_isDay_0 : decode cX12_isDay 0 = .ok (.iload_n 1, 1) := by decide +kernel
theorem dX12_isDay_1 : decode cX12_isDay 1 = .ok (.i2l, 1) := by decide +kernel
theorem dX12_isDay_2 : decode cX12_isDay 2 = .ok (.lconst 0, 1) := by decide +kernel
theorem dX12_isDay_3 : decode cX12_isDay 3 = .ok (.aload_n 0, 1) := by decide +kernel
theorem dX12_isDay_4 : decode cX12_isDay 4 = .ok (.getfield 9, 3) := by decide +kernel
theorem dX12_isDay_7 : decode cX12_isDay 7 = .ok (.iconst 2, 1) := by decide +kernel
theorem dX12_isDay_8 : decode cX12_isDay 8 = .ok (.iaload, 1) := by decide +kernel
theorem dX12_isDay_9 : decode cX12_isDay 9 = .ok (.iconst 1, 1) := by decide +kernel
theorem dX12_isDay_10 : decode cX12_isDay 10 = .ok (.isub, 1) := by decide +kernel
theorem dX12_isDay_11 : decode cX12_isDay 11 = .ok (.i2l, 1) := by decide +kernel
theorem dX12_isDay_12 : decode cX12_isDay 12 = .ok (.invokestatic 67, 3) := by decide +kernel
theorem dX12_isDay_15 : decode cX12_isDay 15 = .ok (.ireturn, 1) := by decide +kernel
theorem dX12_isDesk_0 : decode cX12_isDesk 0 = .ok (.aload_n 0, 1) := by decide +kernel
theorem dX12_isDesk_1 : decode cX12_isDesk 1 = .ok (.getfield 9, 3) := by decide +kernel
theorem dX12_isDesk_4 : decode cX12_isDesk 4 = .ok (.bipush 9, 2) := by decide +kernel
theorem dX12_isDesk_6 : decode cX12_isDesk 6 = .ok (.iaload, 1) := by decide +kernel
theorem dX12_isDesk_7 : decode cX12_isDesk 7 = .ok (.ifCond .le 7, 3) := by decide +kernel
theorem dX12_isDesk_14 : decode cX12_isDesk 14 = .ok (.iconst 0, 1) := by decide +kernel
theorem dX12_isDesk_15 : decode cX12_isDesk 15 = .ok (.ireturn, 1) := by decide +kernel
theorem dX12_isHearer_0 : decode cX12_isHearer 0 = .ok (.iload_n 1, 1) := by decide +kernel
theorem dX12_isHearer_1 : decode cX12_isHearer 1 = .ok (.i2l, 1) := by decide +kernel
theorem dX12_isHearer_2 : decode cX12_isHearer 2 = .ok (.lconst 0, 1) := by decide +kernel
theorem dX12_isHearer_3 : decode cX12_isHearer 3 = .ok (.aload_n 0, 1) := by decide +kernel
theorem dX12_isHearer_4 : decode cX12_isHearer 4 = .ok (.getfield 9, 3) := by decide +kernel
theorem dX12_isHearer_7 : decode cX12_isHearer 7 = .ok (.iconst 5, 1) := by decide +kernel
theorem dX12_isHearer_8 : decode cX12_isHearer 8 = .ok (.iaload, 1) := by decide +kernel
theorem dX12_isHearer_9 : decode cX12_isHearer 9 = .ok (.iconst 1, 1) := by decide +kernel
theorem dX12_isHearer_10 : decode cX12_isHearer 10 = .ok (.isub, 1) := by decide +kernel
theorem dX12_isHearer_11 : decode cX12_isHearer 11 = .ok (.i2l, 1) := by decide +kernel
theorem dX12_isHearer_12 : decode cX12_isHearer 12 = .ok (.invokestatic 67, 3) := by decide +kernel
theorem dX12_isHearer_15 : decode cX12_isHearer 15 = .ok (.ireturn, 1) := by decide +kernel
theorem dX12_isPlan_0 : decode cX12_isPlan 0 = .ok (.iload_n 1, 1) := by decide +kernel
theorem dX12_isPlan_1 : decode cX12_isPlan 1 = .ok (.i2l, 1) := by decide +kernel
theorem dX12_isPlan_2 : decode cX12_isPlan 2 = .ok (.lconst 0, 1) := by decide +kernel
theorem dX12_isPlan_3 : decode cX12_isPlan 3 = .ok (.aload_n 0, 1) := by decide +kernel
theorem dX12_isPlan_4 : decode cX12_isPlan 4 = .ok (.getfield 9, 3) := by decide +kernel
theorem dX12_isPlan_7 : decode cX12_isPlan 7 = .ok (.bipush 7, 2) := by decide +kernel
theorem dX12_isPlan_9 : decode cX12_isPlan 9 = .ok (.iaload, 1) := by decide +kernel
theorem dX12_isPlan_10 : decode cX12_isPlan 10 = .ok (.iconst 1, 1) := by decide +kernel
theorem dX12_isPlan_11 : decode cX12_isPlan 11 = .ok (.isub, 1) := by decide +kernel
theorem dX12_isPlan_12 : decode cX12_isPlan 12 = .ok (.i2l, 1) := by decide +kernel
theorem dX12_isPlan_13 : decode cX12_isPlan 13 = .ok (.invokestatic 67, 3) := by decide +kernel
theorem dX12_isPlan_16 : decode cX12_isPlan 16 = .ok (.ireturn, 1) := by decide +kernel
theorem dX12_isSeed_0 : decode cX12_isSeed 0 = .ok (.iload_n 0, 1) := by decide +kernel
theorem dX12_isSeed_1 : decode cX12_isSeed 1 = .ok (.i2l, 1) := by decide +kernel
theorem dX12_isSeed_2 : decode cX12_isSeed 2 = .ok (.lconst 0, 1) := by decide +kernel
theorem dX12_isSeed_3 : decode cX12_isSeed 3 = .ok (.ldc2_w 436, 3) := by decide +kernel
theorem dX12_isSeed_6 : decode cX12_isSeed 6 = .ok (.invokestatic 67, 3) := by decide +kernel
theorem dX12_isSeed_9 : decode cX12_isSeed 9 = .ok (.ireturn, 1) := by decide +kernel
theorem dX12_isSlot_0 : decode cX12_isSlot 0 = .ok (.iload_n 0, 1) := by decide +kernel
theorem dX12_isSlot_1 : decode cX12_isSlot 1 = .ok (.i2l, 1) := by decide +kernel
theorem dX12_isSlot_2 : decode cX12_isSlot 2 = .ok (.lconst 0, 1) := by decide +kernel
theorem dX12_isSlot_3 : decode cX12_isSlot 3 = .ok (.ldc2_w 447, 3) := by decide +kernel
theorem dX12_isSlot_6 : decode cX12_isSlot 6 = .ok (.invokestatic 67, 3) := by decide +kernel
theorem dX12_isSlot_9 : decode cX12_isSlot 9 = .ok (.ireturn, 1) := by decide +kernel
theorem dX12_isState_0 : decode cX12_isState 0 = .ok (.iload_n 1, 1) := by decide +kernel
theorem dX12_isState_1 : decode cX12_isState 1 = .ok (.i2l, 1) := by decide +kernel
theorem dX12_isState_2 : decode cX12_isState 2 = .ok (.lconst 0, 1) := by decide +kernel
theorem dX12_isState_3 : decode cX12_isState 3 = .ok (.aload_n 0, 1) := by decide +kernel
theorem dX12_isState_4 : decode cX12_isState 4 = .ok (.getfield 9, 3) := by decide +kernel
theorem dX12_isState_7 : decode cX12_isState 7 = .ok (.iconst 0, 1) := by decide +kernel
theorem dX12_isState_8 : decode cX12_isState 8 = .ok (.iaload, 1) := by decide +kernel
theorem dX12_isState_9 : decode cX12_isState 9 = .ok (.iconst 1, 1) := by decide +kernel
theorem dX12_isState_10 : decode cX12_isState 10 = .ok (.isub, 1) := by decide +kernel
theorem dX12_isState_11 : decode cX12_isState 11 = .ok (.i2l, 1) := by decide +kernel
theorem dX12_isState_12 : decode cX12_isState 12 = .ok (.invokestatic 67, 3) := by decide +kernel
theorem dX12_isState_15 : decode cX12_isState 15 = .ok (.ireturn, 1) := by decide +kernel
theorem dX12_isWord_0 : decode cX12_isWord 0 = .ok (.lload_n 1, 1) := by decide +kernel
theorem dX12_isWord_1 : decode cX12_isWord 1 = .ok (.lconst 0, 1) := by decide +kernel
theorem dX12_isWord_2 : decode cX12_isWord 2 = .ok (.aload_n 0, 1) := by decide +kernel
theorem dX12_isWord_3 : decode cX12_isWord 3 = .ok (.getfield 9, 3) := by decide +kernel
theorem dX12_isWord_6 : decode cX12_isWord 6 = .ok (.bipush 6, 2) := by decide +kernel
theorem dX12_isWord_8 : decode cX12_isWord 8 = .ok (.iaload, 1) := by decide +kernel
theorem dX12_isWord_9 : decode cX12_isWord 9 = .ok (.iconst 1, 1) := by decide +kernel
theorem dX12_isWord_10 : decode cX12_isWord 10 = .ok (.isub, 1) := by decide +kernel
theorem dX12_isWord_11 : decode cX12_isWord 11 = .ok (.i2l, 1) := by decide +kernel
theorem dX12_isWord_12 : decode cX12_isWord 12 = .ok (.invokestatic 67, 3) := by decide +kernel
theorem dX12_isWord_15 : decode cX12_isWord 15 = .ok (.ireturn, 1) := by decide +kernel
theorem dX12_joined_0 : decode cX12_joined 0 = .ok (.aload_n 0, 1) := by decide +kernel
theorem dX12_joined_1 : decode cX12_joined 1 = .ok (.iload_n 1, 1) := by decide +kernel
theorem dX12_joined_2 : decode cX12_joined 2 = .ok (.invokevirtual 400, 3) := by decide +kernel
theorem dX12_joined_5 : decode cX12_joined 5 = .ok (.ifCond .eq 15, 3) := by decide +kernel
theorem dX12_joined_20 : decode cX12_joined 20 = .ok (.bipush (-2), 2) := by decide +kernel
theorem dX12_joined_22 : decode cX12_joined 22 = .ok (.ireturn, 1) := by decide +kernel
theorem dX12_knew_0 : decode cX12_knew 0 = .ok (.aload_n 0, 1) := by decide +kernel
theorem dX12_knew_1 : decode cX12_knew 1 = .ok (.iload_n 1, 1) := by decide +kernel
theorem dX12_knew_2 : decode cX12_knew 2 = .ok (.aload_n 0, 1) := by decide +kernel
theorem dX12_knew_3 : decode cX12_knew 3 = .ok (.iload_n 2, 1) := by decide +kernel
theorem dX12_knew_4 : decode cX12_knew 4 = .ok (.invokevirtual 258, 3) := by decide +kernel
theorem dX12_knew_7 : decode cX12_knew 7 = .ok (.invokevirtual 299, 3) := by decide +kernel
theorem dX12_knew_10 : decode cX12_knew 10 = .ok (.istore_n 3, 1) := by decide +kernel
theorem dX12_knew_11 : decode cX12_knew 11 = .ok (.iload_n 3, 1) := by decide +kernel
theorem dX12_knew_12 : decode cX12_knew 12 = .ok (.ifCond .ge 7, 3) := by decide +kernel
theorem dX12_knew_15 : decode cX12_knew 15 = .ok (.iload_n 3, 1) := by decide +kernel
theorem dX12_knew_16 : decode cX12_knew 16 = .ok (.goto 9, 3) := by decide +kernel
theorem dX12_knew_25 : decode cX12_knew 25 = .ok (.ireturn, 1) := by decide +kernel
theorem dX12_known_0 : decode cX12_known 0 = .ok (.aload_n 0, 1) := by decide +kernel
theorem dX12_known_1 : decode cX12_known 1 = .ok (.iload_n 1, 1) := by decide +kernel
theorem dX12_known_2 : decode cX12_known 2 = .ok (.iconst 1, 1) := by decide +kernel
theorem dX12_known_3 : decode cX12_known 3 = .ok (.invokevirtual 299, 3) := by decide +kernel
theorem dX12_known_6 : decode cX12_known 6 = .ok (.istore_n 2, 1) := by decide +kernel
theorem dX12_known_7 : decode cX12_known 7 = .ok (.iload_n 2, 1) := by decide +kernel
theorem dX12_known_8 : decode cX12_known 8 = .ok (.ifCond .ge 5, 3) := by decide +kernel
theorem dX12_known_11 : decode cX12_known 11 = .ok (.iload_n 2, 1) := by decide +kernel
theorem dX12_known_12 : decode cX12_known 12 = .ok (.ireturn, 1) := by decide +kernel
theorem dX12_late_0 : decode cX12_late 0 = .ok (.aload_n 0, 1) := by decide +kernel
theorem dX12_late_1 : decode cX12_late 1 = .ok (.iload_n 1, 1) := by decide +kernel
theorem dX12_late_2 : decode cX12_late 2 = .ok (.invokevirtual 258, 3) := by decide +kernel
theorem dX12_late_5 : decode cX12_late 5 = .ok (.ifCond .eq 7, 3) := by decide +kernel
theorem dX12_late_12 : decode cX12_late 12 = .ok (.bipush (-2), 2) := by decide +kernel
theorem dX12_late_14 : decode cX12_late 14 = .ok (.ireturn, 1) := by decide +kernel
theorem dX12_leaks_0 : decode cX12_leaks 0 = .ok (.aload_n 0, 1) := by decide +kernel
theorem dX12_leaks_1 : decode cX12_leaks 1 = .ok (.invokevirtual 77, 3) := by decide +kernel
theorem dX12_leaks_4 : decode cX12_leaks 4 = .ok (.ifCond .eq 22, 3) := by decide +kernel
theorem dX12_leaks_26 : decode cX12_leaks 26 = .ok (.bipush (-2), 2) := by decide +kernel
theorem dX12_leaks_28 : decode cX12_leaks 28 = .ok (.ireturn, 1) := by decide +kernel
theorem dX12_least_0 : decode cX12_least 0 = .ok (.aload_n 0, 1) := by decide +kernel
theorem dX12_least_1 : decode cX12_least 1 = .ok (.iload_n 1, 1) := by decide +kernel
theorem dX12_least_2 : decode cX12_least 2 = .ok (.invokevirtual 258, 3) := by decide +kernel
theorem dX12_least_5 : decode cX12_least 5 = .ok (.ifCond .eq 12, 3) := by decide +kernel
theorem dX12_least_17 : decode cX12_least 17 = .ok (.bipush (-2), 2) := by decide +kernel
theorem dX12_least_19 : decode cX12_least 19 = .ok (.ireturn, 1) := by decide +kernel
theorem dX12_left_0 : decode cX12_left 0 = .ok (.aload_n 0, 1) := by decide +kernel
theorem dX12_left_1 : decode cX12_left 1 = .ok (.iload_n 1, 1) := by decide +kernel
theorem dX12_left_2 : decode cX12_left 2 = .ok (.aload_n 0, 1) := by decide +kernel
theorem dX12_left_3 : decode cX12_left 3 = .ok (.iload_n 2, 1) := by decide +kernel
theorem dX12_left_4 : decode cX12_left 4 = .ok (.invokevirtual 258, 3) := by decide +kernel
theorem dX12_left_7 : decode cX12_left 7 = .ok (.invokevirtual 299, 3) := by decide +kernel
theorem dX12_left_10 : decode cX12_left 10 = .ok (.istore_n 3, 1) := by decide +kernel
theorem dX12_left_11 : decode cX12_left 11 = .ok (.iload_n 3, 1) := by decide +kernel
theorem dX12_left_12 : decode cX12_left 12 = .ok (.ifCond .ge 7, 3) := by decide +kernel
theorem dX12_left_15 : decode cX12_left 15 = .ok (.iload_n 3, 1) := by decide +kernel
theorem dX12_left_16 : decode cX12_left 16 = .ok (.goto 10, 3) := by decide +kernel
theorem dX12_left_26 : decode cX12_left 26 = .ok (.ireturn, 1) := by decide +kernel
theorem dX12_letter_0 : decode cX12_letter 0 = .ok (.aload_n 0, 1) := by decide +kernel
theorem dX12_letter_1 : decode cX12_letter 1 = .ok (.iload_n 1, 1) := by decide +kernel
theorem dX12_letter_2 : decode cX12_letter 2 = .ok (.invokevirtual 400, 3) := by decide +kernel
theorem dX12_letter_5 : decode cX12_letter 5 = .ok (.ifCond .eq 22, 3) := by decide +kernel
theorem dX12_letter_27 : decode cX12_letter 27 = .ok (.bipush (-2), 2) := by decide +kernel
theorem dX12_letter_29 : decode cX12_letter 29 = .ok (.ireturn, 1) := by decide +kernel
theorem dX12_lies_0 : decode cX12_lies 0 = .ok (.aload_n 0, 1) := by decide +kernel
theorem dX12_lies_1 : decode cX12_lies 1 = .ok (.iload_n 1, 1) := by decide +kernel
theorem dX12_lies_2 : decode cX12_lies 2 = .ok (.iconst 1, 1) := by decide +kernel
theorem dX12_lies_3 : decode cX12_lies 3 = .ok (.invokevirtual 299, 3) := by decide +kernel
theorem dX12_lies_6 : decode cX12_lies 6 = .ok (.istore_n 2, 1) := by decide +kernel
theorem dX12_lies_7 : decode cX12_lies 7 = .ok (.iload_n 2, 1) := by decide +kernel
theorem dX12_lies_8 : decode cX12_lies 8 = .ok (.ifCond .ge 5, 3) := by decide +kernel
theorem dX12_lies_11 : decode cX12_lies 11 = .ok (.iload_n 2, 1) := by decide +kernel
theorem dX12_lies_12 : decode cX12_lies 12 = .ok (.ireturn, 1) := by decide +kernel
theorem dX12_mean_0 : decode cX12_mean 0 = .ok (.aload_n 0, 1) := by decide +kernel
theorem dX12_mean_1 : decode cX12_mean 1 = .ok (.iload_n 1, 1) := by decide +kernel
theorem dX12_mean_2 : decode cX12_mean 2 = .ok (.invokevirtual 258, 3) := by decide +kernel
theorem dX12_mean_5 : decode cX12_mean 5 = .ok (.ifCond .eq 20, 3) := by decide +kernel
theorem dX12_mean_25 : decode cX12_mean 25 = .ok (.bipush (-2), 2) := by decide +kernel
theorem dX12_mean_27 : decode cX12_mean 27 = .ok (.ireturn, 1) := by decide +kernel
theorem dX12_news_0 : decode cX12_news 0 = .ok (.iload_n 1, 1) := by decide +kernel
theorem dX12_news_1 : decode cX12_news 1 = .ok (.i2l, 1) := by decide +kernel
theorem dX12_news_2 : decode cX12_news 2 = .ok (.lconst 0, 1) := by decide +kernel
theorem dX12_news_3 : decode cX12_news 3 = .ok (.aload_n 0, 1) := by decide +kernel
theorem dX12_news_4 : decode cX12_news 4 = .ok (.getfield 9, 3) := by decide +kernel
theorem dX12_news_7 : decode cX12_news 7 = .ok (.bipush 8, 2) := by decide +kernel
theorem dX12_news_9 : decode cX12_news 9 = .ok (.iaload, 1) := by decide +kernel
theorem dX12_news_10 : decode cX12_news 10 = .ok (.iconst 1, 1) := by decide +kernel
theorem dX12_news_11 : decode cX12_news 11 = .ok (.isub, 1) := by decide +kernel
theorem dX12_news_12 : decode cX12_news 12 = .ok (.i2l, 1) := by decide +kernel
theorem dX12_news_13 : decode cX12_news 13 = .ok (.invokestatic 67, 3) := by decide +kernel
theorem dX12_news_16 : decode cX12_news 16 = .ok (.ifCond .eq 15, 3) := by decide +kernel
theorem dX12_news_31 : decode cX12_news 31 = .ok (.sipush (-1000), 3) := by decide +kernel
theorem dX12_news_34 : decode cX12_news 34 = .ok (.ireturn, 1) := by decide +kernel
theorem dX12_now_0 : decode cX12_now 0 = .ok (.aload_n 0, 1) := by decide +kernel
theorem dX12_now_1 : decode cX12_now 1 = .ok (.iload_n 1, 1) := by decide +kernel
theorem dX12_now_2 : decode cX12_now 2 = .ok (.invokevirtual 258, 3) := by decide +kernel
theorem dX12_now_5 : decode cX12_now 5 = .ok (.ifCond .eq 19, 3) := by decide +kernel
theorem dX12_now_24 : decode cX12_now 24 = .ok (.bipush (-2), 2) := by decide +kernel
theorem dX12_now_26 : decode cX12_now 26 = .ok (.ireturn, 1) := by decide +kernel
theorem dX12_once_0 : decode cX12_once 0 = .ok (.aload_n 0, 1) := by decide +kernel
theorem dX12_once_1 : decode cX12_once 1 = .ok (.iload_n 1, 1) := by decide +kernel
theorem dX12_once_2 : decode cX12_once 2 = .ok (.invokevirtual 258, 3) := by decide +kernel
theorem dX12_once_5 : decode cX12_once 5 = .ok (.ifCond .eq 19, 3) := by decide +kernel
theorem dX12_once_24 : decode cX12_once 24 = .ok (.bipush (-2), 2) := by decide +kernel
theorem dX12_once_26 : decode cX12_once 26 = .ok (.ireturn, 1) := by decide +kernel
theorem dX12_ordered_0 : decode cX12_ordered 0 = .ok (.aload_n 0, 1) := by decide +kernel
theorem dX12_ordered_1 : decode cX12_ordered 1 = .ok (.iload_n 1, 1) := by decide +kernel
theorem dX12_ordered_2 : decode cX12_ordered 2 = .ok (.iload_n 2, 1) := by decide +kernel
theorem dX12_ordered_3 : decode cX12_ordered 3 = .ok (.invokevirtual 367, 3) := by decide +kernel
theorem dX12_ordered_6 : decode cX12_ordered 6 = .ok (.istore 4, 2) := by decide +kernel
theorem dX12_ordered_8 : decode cX12_ordered 8 = .ok (.iload 4, 2) := by decide +kernel
theorem dX12_ordered_10 : decode cX12_ordered 10 = .ok (.ifCond .ge 6, 3) := by decide +kernel
theorem dX12_ordered_13 : decode cX12_ordered 13 = .ok (.iload 4, 2) := by decide +kernel
theorem dX12_ordered_15 : decode cX12_ordered 15 = .ok (.ireturn, 1) := by decide +kernel
theorem dX12_plan_0 : decode cX12_plan 0 = .ok (.aload_n 0, 1) := by decide +kernel
theorem dX12_plan_1 : decode cX12_plan 1 = .ok (.iload_n 1, 1) := by decide +kernel
theorem dX12_plan_2 : decode cX12_plan 2 = .ok (.invokevirtual 264, 3) := by decide +kernel
theorem dX12_plan_5 : decode cX12_plan 5 = .ok (.ifCond .ne 8, 3) := by decide +kernel
theorem dX12_plan_8 : decode cX12_plan 8 = .ok (.bipush (-2), 2) := by decide +kernel
theorem dX12_plan_10 : decode cX12_plan 10 = .ok (.goto 30, 3) := by decide +kernel
theorem dX12_plan_40 : decode cX12_plan 40 = .ok (.ireturn, 1) := by decide +kernel
theorem dX12_read_0 : decode cX12_read 0 = .ok (.aload_n 0, 1) := by decide +kernel
theorem dX12_read_1 : decode cX12_read 1 = .ok (.iload_n 1, 1) := by decide +kernel
theorem dX12_read_2 : decode cX12_read 2 = .ok (.iconst 1, 1) := by decide +kernel
theorem dX12_read_3 : decode cX12_read 3 = .ok (.invokevirtual 299, 3) := by decide +kernel
theorem dX12_read_6 : decode cX12_read 6 = .ok (.istore_n 2, 1) := by decide +kernel
theorem dX12_read_7 : decode cX12_read 7 = .ok (.iload_n 2, 1) := by decide +kernel
theorem dX12_read_8 : decode cX12_read 8 = .ok (.ifCond .ge 7, 3) := by decide +kernel
theorem dX12_read_11 : decode cX12_read 11 = .ok (.iload_n 2, 1) := by decide +kernel
theorem dX12_read_12 : decode cX12_read 12 = .ok (.goto 8, 3) := by decide +kernel
theorem dX12_read_20 : decode cX12_read 20 = .ok (.ireturn, 1) := by decide +kernel
theorem dX12_really_0 : decode cX12_really 0 = .ok (.aload_n 0, 1) := by decide +kernel
theorem dX12_really_1 : decode cX12_really 1 = .ok (.iload_n 1, 1) := by decide +kernel
theorem dX12_really_2 : decode cX12_really 2 = .ok (.invokevirtual 255, 3) := by decide +kernel
theorem dX12_really_5 : decode cX12_really 5 = .ok (.ifCond .eq 12, 3) := by decide +kernel
theorem dX12_really_17 : decode cX12_really 17 = .ok (.bipush (-2), 2) := by decide +kernel
theorem dX12_really_19 : decode cX12_really 19 = .ok (.ireturn, 1) := by decide +kernel
theorem dX12_reckoned_0 : decode cX12_reckoned 0 = .ok (.aload_n 0, 1) := by decide +kernel
theorem dX12_reckoned_1 : decode cX12_reckoned 1 = .ok (.iload_n 1, 1) := by decide +kernel
theorem dX12_reckoned_2 : decode cX12_reckoned 2 = .ok (.aload_n 0, 1) := by decide +kernel
theorem dX12_reckoned_3 : decode cX12_reckoned 3 = .ok (.iload_n 2, 1) := by decide +kernel
theorem dX12_reckoned_4 : decode cX12_reckoned 4 = .ok (.invokevirtual 258, 3) := by decide +kernel
theorem dX12_reckoned_7 : decode cX12_reckoned 7 = .ok (.invokevirtual 299, 3) := by decide +kernel
theorem dX12_reckoned_10 : decode cX12_reckoned 10 = .ok (.istore_n 3, 1) := by decide +kernel
theorem dX12_reckoned_11 : decode cX12_reckoned 11 = .ok (.iload_n 3, 1) := by decide +kernel
theorem dX12_reckoned_12 : decode cX12_reckoned 12 = .ok (.ifCond .ge 5, 3) := by decide +kernel
theorem dX12_reckoned_15 : decode cX12_reckoned 15 = .ok (.iload_n 3, 1) := by decide +kernel
theorem dX12_reckoned_16 : decode cX12_reckoned 16 = .ok (.ireturn, 1) := by decide +kernel
theorem dX12_rest_0 : decode cX12_rest 0 = .ok (.aload_n 0, 1) := by decide +kernel
theorem dX12_rest_1 : decode cX12_rest 1 = .ok (.iload_n 1, 1) := by decide +kernel
theorem dX12_rest_2 : decode cX12_rest 2 = .ok (.invokevirtual 258, 3) := by decide +kernel
theorem dX12_rest_5 : decode cX12_rest 5 = .ok (.ifCond .ne 6, 3) := by decide +kernel
theorem dX12_rest_8 : decode cX12_rest 8 = .ok (.bipush (-2), 2) := by decide +kernel
theorem dX12_rest_10 : decode cX12_rest 10 = .ok (.ireturn, 1) := by decide +kernel
theorem dX12_risk_0 : decode cX12_risk 0 = .ok (.aload_n 0, 1) := by decide +kernel
theorem dX12_risk_1 : decode cX12_risk 1 = .ok (.iload_n 1, 1) := by decide +kernel
theorem dX12_risk_2 : decode cX12_risk 2 = .ok (.invokevirtual 258, 3) := by decide +kernel
theorem dX12_risk_5 : decode cX12_risk 5 = .ok (.ifCond .eq 12, 3) := by decide +kernel
theorem dX12_risk_17 : decode cX12_risk 17 = .ok (.bipush (-2), 2) := by decide +kernel
theorem dX12_risk_19 : decode cX12_risk 19 = .ok (.ireturn, 1) := by decide +kernel
theorem dX12_shames_0 : decode cX12_shames 0 = .ok (.aload_n 0, 1) := by decide +kernel
theorem dX12_shames_1 : decode cX12_shames 1 = .ok (.iload_n 1, 1) := by decide +kernel
theorem dX12_shames_2 : decode cX12_shames 2 = .ok (.iconst 1, 1) := by decide +kernel
theorem dX12_shames_3 : decode cX12_shames 3 = .ok (.invokevirtual 299, 3) := by decide +kernel
theorem dX12_shames_6 : decode cX12_shames 6 = .ok (.istore_n 2, 1) := by decide +kernel
theorem dX12_shames_7 : decode cX12_shames 7 = .ok (.iload_n 2, 1) := by decide +kernel
theorem dX12_shames_8 : decode cX12_shames 8 = .ok (.ifCond .ge 5, 3) := by decide +kernel
theorem dX12_shames_11 : decode cX12_shames 11 = .ok (.iload_n 2, 1) := by decide +kernel
theorem dX12_shames_12 : decode cX12_shames 12 = .ok (.ireturn, 1) := by decide +kernel
theorem dX12_shock_0 : decode cX12_shock 0 = .ok (.aload_n 0, 1) := by decide +kernel
theorem dX12_shock_1 : decode cX12_shock 1 = .ok (.iload_n 1, 1) := by decide +kernel
theorem dX12_shock_2 : decode cX12_shock 2 = .ok (.invokevirtual 258, 3) := by decide +kernel
theorem dX12_shock_5 : decode cX12_shock 5 = .ok (.ifCond .ne 6, 3) := by decide +kernel
theorem dX12_shock_8 : decode cX12_shock 8 = .ok (.bipush (-2), 2) := by decide +kernel
theorem dX12_shock_10 : decode cX12_shock 10 = .ok (.ireturn, 1) := by decide +kernel
theorem dX12_softer_0 : decode cX12_softer 0 = .ok (.aload_n 0, 1) := by decide +kernel
theorem dX12_softer_1 : decode cX12_softer 1 = .ok (.iload_n 1, 1) := by decide +kernel
theorem dX12_softer_2 : decode cX12_softer 2 = .ok (.iload_n 2, 1) := by decide +kernel
theorem dX12_softer_3 : decode cX12_softer 3 = .ok (.invokevirtual 367, 3) := by decide +kernel
theorem dX12_softer_6 : decode cX12_softer 6 = .ok (.istore_n 3, 1) := by decide +kernel
theorem dX12_softer_7 : decode cX12_softer 7 = .ok (.iload_n 3, 1) := by decide +kernel
theorem dX12_softer_8 : decode cX12_softer 8 = .ok (.ifCond .ge 5, 3) := by decide +kernel
theorem dX12_softer_11 : decode cX12_softer 11 = .ok (.iload_n 3, 1) := by decide +kernel
theorem dX12_softer_12 : decode cX12_softer 12 = .ok (.ireturn, 1) := by decide +kernel
theorem dX12_softest_0 : decode cX12_softest 0 = .ok (.aload_n 0, 1) := by decide +kernel
theorem dX12_softest_1 : decode cX12_softest 1 = .ok (.iload_n 1, 1) := by decide +kernel
theorem dX12_softest_2 : decode cX12_softest 2 = .ok (.invokevirtual 258, 3) := by decide +kernel
theorem dX12_softest_5 : decode cX12_softest 5 = .ok (.ifCond .eq 11, 3) := by decide +kernel
theorem dX12_softest_16 : decode cX12_softest 16 = .ok (.bipush (-2), 2) := by decide +kernel
theorem dX12_softest_18 : decode cX12_softest 18 = .ok (.ireturn, 1) := by decide +kernel
theorem dX12_soon_0 : decode cX12_soon 0 = .ok (.aload_n 0, 1) := by decide +kernel
theorem dX12_soon_1 : decode cX12_soon 1 = .ok (.iload_n 1, 1) := by decide +kernel
theorem dX12_soon_2 : decode cX12_soon 2 = .ok (.invokevirtual 258, 3) := by decide +kernel
theorem dX12_soon_5 : decode cX12_soon 5 = .ok (.ifCond .eq 13, 3) := by decide +kernel
theorem dX12_soon_18 : decode cX12_soon 18 = .ok (.bipush (-2), 2) := by decide +kernel
theorem dX12_soon_20 : decode cX12_soon 20 = .ok (.ireturn, 1) := by decide +kernel
theorem dX12_step_0 : decode cX12_step 0 = .ok (.aload_n 0, 1) := by decide +kernel
theorem dX12_step_1 : decode cX12_step 1 = .ok (.iload_n 1, 1) := by decide +kernel
theorem dX12_step_2 : decode cX12_step 2 = .ok (.invokevirtual 258, 3) := by decide +kernel
theorem dX12_step_5 : decode cX12_step 5 = .ok (.ifCond .eq 21, 3) := by decide +kernel
theorem dX12_step_26 : decode cX12_step 26 = .ok (.bipush (-2), 2) := by decide +kernel
theorem dX12_step_28 : decode cX12_step 28 = .ok (.ireturn, 1) := by decide +kernel
theorem dX12_suspects_0 : decode cX12_suspects 0 = .ok (.aload_n 0, 1) := by decide +kernel
theorem dX12_suspects_1 : decode cX12_suspects 1 = .ok (.iload_n 1, 1) := by decide +kernel
theorem dX12_suspects_2 : decode cX12_suspects 2 = .ok (.iconst 1, 1) := by decide +kernel
theorem dX12_suspects_3 : decode cX12_suspects 3 = .ok (.invokevirtual 299, 3) := by decide +kernel
theorem dX12_suspects_6 : decode cX12_suspects 6 = .ok (.istore_n 2, 1) := by decide +kernel
theorem dX12_suspects_7 : decode cX12_suspects 7 = .ok (.iload_n 2, 1) := by decide +kernel
theorem dX12_suspects_8 : decode cX12_suspects 8 = .ok (.ifCond .ge 7, 3) := by decide +kernel
theorem dX12_suspects_11 : decode cX12_suspects 11 = .ok (.iload_n 2, 1) := by decide +kernel
theorem dX12_suspects_12 : decode cX12_suspects 12 = .ok (.goto 14, 3) := by decide +kernel
theorem dX12_suspects_26 : decode cX12_suspects 26 = .ok (.ireturn, 1) := by decide +kernel
theorem dX12_tells_0 : decode cX12_tells 0 = .ok (.aload_n 0, 1) := by decide +kernel
theorem dX12_tells_1 : decode cX12_tells 1 = .ok (.iload_n 1, 1) := by decide +kernel
theorem dX12_tells_2 : decode cX12_tells 2 = .ok (.invokevirtual 258, 3) := by decide +kernel
theorem dX12_tells_5 : decode cX12_tells 5 = .ok (.ifCond .eq 15, 3) := by decide +kernel
theorem dX12_tells_20 : decode cX12_tells 20 = .ok (.bipush (-2), 2) := by decide +kernel
theorem dX12_tells_22 : decode cX12_tells 22 = .ok (.ireturn, 1) := by decide +kernel
theorem dX12_tender_0 : decode cX12_tender 0 = .ok (.aload_n 0, 1) := by decide +kernel
theorem dX12_tender_1 : decode cX12_tender 1 = .ok (.iload_n 1, 1) := by decide +kernel
theorem dX12_tender_2 : decode cX12_tender 2 = .ok (.invokevirtual 258, 3) := by decide +kernel
theorem dX12_tender_5 : decode cX12_tender 5 = .ok (.ifCond .eq 12, 3) := by decide +kernel
theorem dX12_tender_17 : decode cX12_tender 17 = .ok (.bipush (-2), 2) := by decide +kernel
theorem dX12_tender_19 : decode cX12_tender 19 = .ok (.ireturn, 1) := by decide +kernel
theorem dX12_tenderly_0 : decode cX12_tenderly 0 = .ok (.aload_n 0, 1) := by decide +kernel
theorem dX12_tenderly_1 : decode cX12_tenderly 1 = .ok (.iload_n 1, 1) := by decide +kernel
theorem dX12_tenderly_2 : decode cX12_tenderly 2 = .ok (.invokevirtual 258, 3) := by decide +kernel
theorem dX12_tenderly_5 : decode cX12_tenderly 5 = .ok (.ifCond .eq 21, 3) := by decide +kernel
theorem dX12_tenderly_26 : decode cX12_tenderly 26 = .ok (.bipush (-2), 2) := by decide +kernel
theorem dX12_tenderly_28 : decode cX12_tenderly 28 = .ok (.ireturn, 1) := by decide +kernel
theorem dX12_thinks_0 : decode cX12_thinks 0 = .ok (.aload_n 0, 1) := by decide +kernel
theorem dX12_thinks_1 : decode cX12_thinks 1 = .ok (.iload_n 1, 1) := by decide +kernel
theorem dX12_thinks_2 : decode cX12_thinks 2 = .ok (.invokevirtual 258, 3) := by decide +kernel
theorem dX12_thinks_5 : decode cX12_thinks 5 = .ok (.ifCond .eq 16, 3) := by decide +kernel
theorem dX12_thinks_21 : decode cX12_thinks 21 = .ok (.bipush (-2), 2) := by decide +kernel
theorem dX12_thinks_23 : decode cX12_thinks 23 = .ok (.goto 22, 3) := by decide +kernel
theorem dX12_thinks_45 : decode cX12_thinks 45 = .ok (.ireturn, 1) := by decide +kernel
theorem dX12_truly_0 : decode cX12_truly 0 = .ok (.aload_n 0, 1) := by decide +kernel
theorem dX12_truly_1 : decode cX12_truly 1 = .ok (.iload_n 1, 1) := by decide +kernel
theorem dX12_truly_2 : decode cX12_truly 2 = .ok (.invokevirtual 258, 3) := by decide +kernel
theorem dX12_truly_5 : decode cX12_truly 5 = .ok (.ifCond .eq 12, 3) := by decide +kernel
theorem dX12_truly_17 : decode cX12_truly 17 = .ok (.bipush (-2), 2) := by decide +kernel
theorem dX12_truly_19 : decode cX12_truly 19 = .ok (.ireturn, 1) := by decide +kernel
theorem dX12_undo_0 : decode cX12_undo 0 = .ok (.aload_n 0, 1) := by decide +kernel
theorem dX12_undo_1 : decode cX12_undo 1 = .ok (.invokevirtual 77, 3) := by decide +kernel
theorem dX12_undo_4 : decode cX12_undo 4 = .ok (.ifCond .ne 6, 3) := by decide +kernel
theorem dX12_undo_7 : decode cX12_undo 7 = .ok (.bipush (-2), 2) := by decide +kernel
theorem dX12_undo_9 : decode cX12_undo 9 = .ok (.ireturn, 1) := by decide +kernel
theorem dX12_unsaid_0 : decode cX12_unsaid 0 = .ok (.aload_n 0, 1) := by decide +kernel
theorem dX12_unsaid_1 : decode cX12_unsaid 1 = .ok (.invokevirtual 77, 3) := by decide +kernel
theorem dX12_unsaid_4 : decode cX12_unsaid 4 = .ok (.ifCond .ne 6, 3) := by decide +kernel
theorem dX12_unsaid_7 : decode cX12_unsaid 7 = .ok (.bipush (-2), 2) := by decide +kernel
theorem dX12_unsaid_9 : decode cX12_unsaid 9 = .ok (.ireturn, 1) := by decide +kernel
theorem dX12_whom_0 : decode cX12_whom 0 = .ok (.aload_n 0, 1) := by decide +kernel
theorem dX12_whom_1 : decode cX12_whom 1 = .ok (.invokevirtual 77, 3) := by decide +kernel
theorem dX12_whom_4 : decode cX12_whom 4 = .ok (.ifCond .eq 13, 3) := by decide +kernel
theorem dX12_whom_17 : decode cX12_whom 17 = .ok (.bipush (-2), 2) := by decide +kernel
theorem dX12_whom_19 : decode cX12_whom 19 = .ok (.ireturn, 1) := by decide +kernel
theorem dX12_word_0 : decode cX12_word 0 = .ok (.aload_n 0, 1) := by decide +kernel
theorem dX12_word_1 : decode cX12_word 1 = .ok (.iload_n 1, 1) := by decide +kernel
theorem dX12_word_2 : decode cX12_word 2 = .ok (.i2l, 1) := by decide +kernel
theorem dX12_word_3 : decode cX12_word 3 = .ok (.invokevirtual 71, 3) := by decide +kernel
theorem dX12_word_6 : decode cX12_word 6 = .ok (.ifCond .eq 15, 3) := by decide +kernel
theorem dX12_word_21 : decode cX12_word 21 = .ok (.bipush (-2), 2) := by decide +kernel
theorem dX12_word_23 : decode cX12_word 23 = .ok (.ireturn, 1) := by decide +kernel
theorem dX12_worsen_0 : decode cX12_worsen 0 = .ok (.aload_n 0, 1) := by decide +kernel
theorem dX12_worsen_1 : decode cX12_worsen 1 = .ok (.iload_n 1, 1) := by decide +kernel
theorem dX12_worsen_2 : decode cX12_worsen 2 = .ok (.invokevirtual 255, 3) := by decide +kernel
theorem dX12_worsen_5 : decode cX12_worsen 5 = .ok (.ifCond .eq 27, 3) := by decide +kernel
theorem dX12_worsen_32 : decode cX12_worsen 32 = .ok (.bipush (-2), 2) := by decide +kernel
theorem dX12_worsen_34 : decode cX12_worsen 34 = .ok (.ireturn, 1) := by decide +kernel
theorem dX12_worst_0 : decode cX12_worst 0 = .ok (.aload_n 0, 1) := by decide +kernel
theorem dX12_worst_1 : decode cX12_worst 1 = .ok (.iload_n 1, 1) := by decide +kernel
theorem dX12_worst_2 : decode cX12_worst 2 = .ok (.aload_n 0, 1) := by decide +kernel
theorem dX12_worst_3 : decode cX12_worst 3 = .ok (.iload_n 2, 1) := by decide +kernel
theorem dX12_worst_4 : decode cX12_worst 4 = .ok (.invokevirtual 258, 3) := by decide +kernel
theorem dX12_worst_7 : decode cX12_worst 7 = .ok (.invokevirtual 299, 3) := by decide +kernel
theorem dX12_worst_10 : decode cX12_worst 10 = .ok (.istore_n 3, 1) := by decide +kernel
theorem dX12_worst_11 : decode cX12_worst 11 = .ok (.iload_n 3, 1) := by decide +kernel
theorem dX12_worst_12 : decode cX12_worst 12 = .ok (.ifCond .ge 7, 3) := by decide +kernel
theorem dX12_worst_15 : decode cX12_worst 15 = .ok (.iload_n 3, 1) := by decide +kernel
theorem dX12_worst_16 : decode cX12_worst 16 = .ok (.goto 10, 3) := by decide +kernel
theorem dX12_worst_26 : decode cX12_worst 26 = .ok (.ireturn, 1) := by decide +kernel
/-- the reference's question: a number between two others -/
def inF (v lo hi : Int64) : Int32 := if lo.toInt ≤ v.toInt ∧ v.toInt ≤ hi.toInt then 1 else 0
theorem inF_no {v lo hi : Int64} (h : hi.toInt < lo.toInt) : inF v lo hi = 0 := if_neg (fun q => by omega)
theorem inF_yes {v lo hi : Int64} {a b d : Int} (h1 : v.toInt = a) (h2 : lo.toInt = b) (h3 : hi.toInt = d) (c : b ≤ a ∧ a ≤ d) : inF v lo hi = 1 := if_pos (by rw [h1, h2, h3]; exact c)
theorem inF_not {v lo hi : Int64} {a b d : Int} (h1 : v.toInt = a) (h2 : lo.toInt = b) (h3 : hi.toInt = d) (c : ¬ (b ≤ a ∧ a ≤ d)) : inF v lo hi = 0 := if_neg (by rw [h1, h2, h3]; exact c)
theorem kc_ltT {x y : Int64} (h : (lg_cmp x y).toInt < 0) : x.toInt < y.toInt := by
  unfold lg_cmp at h
  rcases Int.lt_or_le x.toInt y.toInt with q | q
  · exact q
  · exfalso
    split at h
    · exact absurd h (by decide)
    · next h2 =>
      split at h
      · exact absurd h (by decide)
      · next h3 =>
        have h4 : ¬ y.toInt < x.toInt := fun z => h2 (Int64.lt_iff_toInt_lt.mpr z)
        exact h3 (Int64.toInt_inj.mp (by omega))
theorem kc_ltF {x y : Int64} (h : 0 ≤ (lg_cmp x y).toInt) : y.toInt ≤ x.toInt := by
  unfold lg_cmp at h
  rcases Int.lt_or_le x.toInt y.toInt with q | q
  · exfalso
    rw [if_neg (fun z => by have := Int64.lt_iff_toInt_lt.mp z; omega), if_neg (fun z => by rw [z] at q; omega)] at h
    exact absurd h (by decide)
  · exact q
theorem kc_gtT {x y : Int64} (h : 0 < (lg_cmp x y).toInt) : y.toInt < x.toInt := by
  unfold lg_cmp at h
  rcases Int.lt_or_le y.toInt x.toInt with q | q
  · exact q
  · exfalso
    rw [if_neg (fun z => by have := Int64.lt_iff_toInt_lt.mp z; omega)] at h
    split at h <;> exact absurd h (by decide)
theorem kc_gtF {x y : Int64} (h : (lg_cmp x y).toInt ≤ 0) : x.toInt ≤ y.toInt := by
  unfold lg_cmp at h
  rcases Int.lt_or_le y.toInt x.toInt with q | q
  · exfalso
    rw [if_pos (Int64.lt_iff_toInt_lt.mpr q)] at h
    exact absurd h (by decide)
  · exact q
theorem upd_z (k : Nat) : upd (fun _ => (0 : Int32)) k 0 = fun _ => 0 := by
  funext j
  unfold upd
  split <;> rfl
theorem updL_z (k : Nat) : vp_updL (fun _ => (0 : Int64)) k 0 = fun _ => 0 := by
  funext j
  unfold vp_updL
  split <;> rfl
/-- how many numbers a fresh slot has: none -/
def mny : Nat → Int32 := upd (upd (upd (upd (fun _ => 0) 0 (-1)) 1 (-1)) 2 (-1)) 3 (-1)
theorem mny_at (j : Nat) (h : j < 4) : mny j = -1 := by
  match j, h with
  | 0, _ => rfl
  | 1, _ => rfl
  | 2, _ => rfl
  | 3, _ => rfl
  | j + 4, h => exact absurd h (by omega)
