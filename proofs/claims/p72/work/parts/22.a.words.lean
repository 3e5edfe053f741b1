theorem b_388 : Cond.methodLinkNest RX11 114 yX0_hasState RX11 ∈ nests := ne (tin_3 _ (List.mem_of_getElem? (i := 140) rfl)) rfl
theorem b_389 : Cond.fieldLinkNest RX11 118 "GentleLetters$Desk" "grades" "[I" RX11 ∈ nests := ne (tin_1 _ (List.mem_of_getElem? (i := 138) rfl)) rfl
theorem b_390 : Cond.methodLinkNest RX11 128 yX0_thoughtOf RX11 ∈ nests := ne (tin_3 _ (List.mem_of_getElem? (i := 152) rfl)) rfl
theorem b_391 : Cond.fieldLinkNest RX11 125 "GentleLetters$Desk" "reckonings" "[I" RX11 ∈ nests := ne (tin_1 _ (List.mem_of_getElem? (i := 143) rfl)) rfl
theorem b_392 : Cond.methodLinkNest RX11 132 yX0_hasWord RX11 ∈ nests := ne (tin_3 _ (List.mem_of_getElem? (i := 160) rfl)) rfl
theorem b_393 : Cond.fieldLinkNest RX11 135 "GentleLetters$Desk" "shames" "[I" RX11 ∈ nests := ne (tin_1 _ (List.mem_of_getElem? (i := 149) rfl)) rfl
theorem b_394 : Cond.fieldLinkNest RX11 138 "GentleLetters$Desk" "meanings" "[I" RX11 ∈ nests := ne (tin_1 _ (List.mem_of_getElem? (i := 152) rfl)) rfl
theorem b_395 : Cond.methodLinkNest RX11 141 yX0_isTrue RX11 ∈ nests := ne (tin_3 _ (List.mem_of_getElem? (i := 164) rfl)) rfl
theorem b_396 : Cond.methodLinkNest RX11 144 yX0_hasPlan RX11 ∈ nests := ne (tin_3 _ (List.mem_of_getElem? (i := 172) rfl)) rfl
theorem b_397 : Cond.methodLinkNest RX11 147 yX0_planWord RX11 ∈ nests := ne (tin_3 _ (List.mem_of_getElem? (i := 176) rfl)) rfl
theorem b_398 : Cond.methodLinkNest RX11 150 yX0_hasNews RX11 ∈ nests := ne (tin_3 _ (List.mem_of_getElem? (i := 184) rfl)) rfl
theorem b_399 : Cond.fieldLinkNest RX11 153 "GentleLetters$Desk" "tidings" "[I" RX11 ∈ nests := ne (tin_1 _ (List.mem_of_getElem? (i := 161) rfl)) rfl
theorem b_400 : Cond.fieldLinkNest RX11 156 "GentleLetters$Desk" "told" "[I" RX11 ∈ nests := ne (tin_1 _ (List.mem_of_getElem? (i := 146) rfl)) rfl
theorem b_401 : Cond.methodLinkNest RX11 159 yX0_hasBelief RX11 ∈ nests := ne (tin_3 _ (List.mem_of_getElem? (i := 196) rfl)) rfl
theorem b_402 : Cond.methodLinkNest RX11 162 yX0_meanOf RX11 ∈ nests := ne (tin_3 _ (List.mem_of_getElem? (i := 204) rfl)) rfl
theorem b_403 : Cond.methodLinkNest RX11 165 yX0_likelihood RX11 ∈ nests := ne (tin_3 _ (List.mem_of_getElem? (i := 213) rfl)) rfl
theorem b_404 : Cond.methodLinkNest RX11 169 yX0_canTell RX11 ∈ nests := ne (tin_3 _ (List.mem_of_getElem? (i := 230) rfl)) rfl
theorem b_405 : Cond.methodLinkNest RX11 172 yX0_nextBelief RX11 ∈ nests := ne (tin_3 _ (List.mem_of_getElem? (i := 235) rfl)) rfl
theorem b_406 : Cond.methodLinkNest RX11 175 yX0_hurtBetween RX11 ∈ nests := ne (tin_4 _ (List.mem_of_getElem? (i := 3) rfl)) rfl
theorem b_407 : Cond.constant RX11 179 (1000000000) ∈ BIG := bi (tin_4 _ (List.mem_of_getElem? (i := 15) rfl)) rfl
theorem b_408 : Cond.fieldLinkNest RX11 180 "GentleLetters$Desk" "words" "I" RX11 ∈ nests := ne (tin_1 _ (List.mem_of_getElem? (i := 128) rfl)) rfl
theorem b_409 : Cond.methodLinkNest RX11 258 yX0_hurtAtOnce RX11 ∈ nests := ne (tin_5 _ (List.mem_of_getElem? (i := 29) rfl)) rfl
theorem b_410 : Cond.fieldLinkNest RX11 230 "GentleLetters$Desk" "days" "I" RX11 ∈ nests := ne (tin_1 _ (List.mem_of_getElem? (i := 109) rfl)) rfl
theorem b_411 : Cond.methodLinkNest RX11 261 yX0_leftOf RX11 ∈ nests := ne (tin_5 _ (List.mem_of_getElem? (i := 39) rfl)) rfl
theorem b_412 : Cond.fieldLinkNest RX11 264 "GentleLetters$Desk" "states" "I" RX11 ∈ nests := ne (tin_1 _ (List.mem_of_getElem? (i := 99) rfl)) rfl
theorem b_413 : Cond.methodLinkNest RX11 248 yX0_everything RX11 ∈ nests := ne (tin_4 _ (List.mem_of_getElem? (i := 174) rfl)) rfl
theorem b_414 : Cond.methodLinkNest RX11 267 yX0_sharpest RX11 ∈ nests := ne (tin_5 _ (List.mem_of_getElem? (i := 52) rfl)) rfl
theorem b_415 : Cond.methodLinkNest RX11 314 yX0_beliefBehindPlan RX11 ∈ nests := ne (tin_5 _ (List.mem_of_getElem? (i := 152) rfl)) rfl
theorem b_416 : Cond.methodLinkNest RX11 333 yX0_everybody RX11 ∈ nests := ne (tin_5 _ (List.mem_of_getElem? (i := 199) rfl)) rfl
theorem b_417 : Cond.methodLinkNest RX11 336 yX0_knowingAfter RX11 ∈ nests := ne (tin_5 _ (List.mem_of_getElem? (i := 203) rfl)) rfl
theorem b_418 : Cond.methodLinkNest RX11 339 yX0_fewestToTell RX11 ∈ nests := ne (tin_5 _ (List.mem_of_getElem? (i := 211) rfl)) rfl
theorem b_419 : Cond.methodLink RX11 342 yJ6_bitCount_0f7a4 ∈ BIG := bi (tin_5 _ (List.mem_of_getElem? (i := 217) rfl)) rfl
theorem b_420 : Cond.methodLink RX11 371 yX11_isSeed ∈ BIG := bi (tin_6 _ (List.mem_of_getElem? (i := 30) rfl)) rfl
theorem b_421 : Cond.methodLinkNest RX11 374 yX0_drawLeak RX11 ∈ nests := ne (tin_6 _ (List.mem_of_getElem? (i := 34) rfl)) rfl
theorem b_422 : Cond.methodLinkNest RX11 296 yX0_costOfWaiting RX11 ∈ nests := ne (tin_5 _ (List.mem_of_getElem? (i := 116) rfl)) rfl
theorem b_423 : Cond.code yX11_isSeed cX11_isSeed 1 (some .boolean) ∈ BIG := bi (tin_6 _ (List.mem_of_getElem? (i := 32) rfl)) rfl
theorem b_424 : Cond.static yX11_isSeed ∈ BIG := bi (tin_6 _ (List.mem_of_getElem? (i := 31) rfl)) rfl
theorem b_425 : Cond.code yX0_beliefBehindPlan cX0_beliefBehindPlan 4 (some .int) ∈ BIG := bi (tin_5 _ (List.mem_of_getElem? (i := 155) rfl)) rfl
theorem b_426 : Cond.instanceMethod yX0_beliefBehindPlan ∈ BIG := bi (tin_5 _ (List.mem_of_getElem? (i := 154) rfl)) rfl
theorem b_427 : Cond.selects RX0 yX0_beliefBehindPlan yX0_beliefBehindPlan ∈ BIG := bi (sin_6 _ (List.mem_map.mpr ⟨(yX0_beliefBehindPlan, 20), List.mem_of_getElem? (i := 2) rfl, rfl⟩)) rfl
theorem b_428 : Cond.code yX0_canTell cX0_canTell 2 (some .boolean) ∈ BIG := bi (tin_3 _ (List.mem_of_getElem? (i := 233) rfl)) rfl
theorem b_429 : Cond.instanceMethod yX0_canTell ∈ BIG := bi (tin_3 _ (List.mem_of_getElem? (i := 232) rfl)) rfl
theorem b_430 : Cond.selects RX0 yX0_canTell yX0_canTell ∈ BIG := bi (sin_3 _ (List.mem_map.mpr ⟨(yX0_canTell, 20), List.mem_of_getElem? (i := 2) rfl, rfl⟩)) rfl
theorem b_431 : Cond.code yX0_costOfWaiting cX0_costOfWaiting 5 (some .int) ∈ BIG := bi (tin_5 _ (List.mem_of_getElem? (i := 119) rfl)) rfl
theorem b_432 : Cond.instanceMethod yX0_costOfWaiting ∈ BIG := bi (tin_5 _ (List.mem_of_getElem? (i := 118) rfl)) rfl
theorem b_433 : Cond.selects RX0 yX0_costOfWaiting yX0_costOfWaiting ∈ BIG := bi (sin_5 _ (List.mem_map.mpr ⟨(yX0_costOfWaiting, 20), List.mem_of_getElem? (i := 14) rfl, rfl⟩)) rfl
theorem b_434 : Cond.code yX0_drawLeak cX0_drawLeak 5 (some .int) ∈ BIG := bi (tin_6 _ (List.mem_of_getElem? (i := 37) rfl)) rfl
theorem b_435 : Cond.instanceMethod yX0_drawLeak ∈ BIG := bi (tin_6 _ (List.mem_of_getElem? (i := 36) rfl)) rfl
theorem b_436 : Cond.selects RX0 yX0_drawLeak yX0_drawLeak ∈ BIG := bi (sin_6 _ (List.mem_map.mpr ⟨(yX0_drawLeak, 20), List.mem_of_getElem? (i := 15) rfl, rfl⟩)) rfl
theorem b_437 : Cond.code yX0_fewestToTell cX0_fewestToTell 3 (some .int) ∈ BIG := bi (tin_5 _ (List.mem_of_getElem? (i := 214) rfl)) rfl
theorem b_438 : Cond.instanceMethod yX0_fewestToTell ∈ BIG := bi (tin_5 _ (List.mem_of_getElem? (i := 213) rfl)) rfl
theorem b_439 : Cond.selects RX0 yX0_fewestToTell yX0_fewestToTell ∈ BIG := bi (sin_6 _ (List.mem_map.mpr ⟨(yX0_fewestToTell, 20), List.mem_of_getElem? (i := 9) rfl, rfl⟩)) rfl
theorem b_440 : Cond.code yX0_hasBelief cX0_hasBelief 2 (some .boolean) ∈ BIG := bi (tin_3 _ (List.mem_of_getElem? (i := 199) rfl)) rfl
theorem b_441 : Cond.instanceMethod yX0_hasBelief ∈ BIG := bi (tin_3 _ (List.mem_of_getElem? (i := 198) rfl)) rfl
theorem b_442 : Cond.selects RX0 yX0_hasBelief yX0_hasBelief ∈ BIG := bi (sin_2 _ (List.mem_map.mpr ⟨(yX0_hasBelief, 20), List.mem_of_getElem? (i := 14) rfl, rfl⟩)) rfl
theorem b_443 : Cond.code yX0_hasNews cX0_hasNews 2 (some .boolean) ∈ BIG := bi (tin_3 _ (List.mem_of_getElem? (i := 187) rfl)) rfl
theorem b_444 : Cond.instanceMethod yX0_hasNews ∈ BIG := bi (tin_3 _ (List.mem_of_getElem? (i := 186) rfl)) rfl
theorem b_445 : Cond.selects RX0 yX0_hasNews yX0_hasNews ∈ BIG := bi (sin_2 _ (List.mem_map.mpr ⟨(yX0_hasNews, 20), List.mem_of_getElem? (i := 13) rfl, rfl⟩)) rfl
theorem b_446 : Cond.code yX0_hasPlan cX0_hasPlan 2 (some .boolean) ∈ BIG := bi (tin_3 _ (List.mem_of_getElem? (i := 175) rfl)) rfl
theorem b_447 : Cond.instanceMethod yX0_hasPlan ∈ BIG := bi (tin_3 _ (List.mem_of_getElem? (i := 174) rfl)) rfl
theorem b_448 : Cond.selects RX0 yX0_hasPlan yX0_hasPlan ∈ BIG := bi (sin_2 _ (List.mem_map.mpr ⟨(yX0_hasPlan, 20), List.mem_of_getElem? (i := 11) rfl, rfl⟩)) rfl
theorem b_449 : Cond.code yX0_hasState cX0_hasState 2 (some .boolean) ∈ BIG := bi (tin_3 _ (List.mem_of_getElem? (i := 143) rfl)) rfl
theorem b_450 : Cond.instanceMethod yX0_hasState ∈ BIG := bi (tin_3 _ (List.mem_of_getElem? (i := 142) rfl)) rfl
theorem b_451 : Cond.selects RX0 yX0_hasState yX0_hasState ∈ BIG := bi (sin_2 _ (List.mem_map.mpr ⟨(yX0_hasState, 20), List.mem_of_getElem? (i := 6) rfl, rfl⟩)) rfl
theorem b_452 : Cond.code yX0_hurtAtOnce cX0_hurtAtOnce 2 (some .int) ∈ BIG := bi (tin_5 _ (List.mem_of_getElem? (i := 32) rfl)) rfl
theorem b_453 : Cond.instanceMethod yX0_hurtAtOnce ∈ BIG := bi (tin_5 _ (List.mem_of_getElem? (i := 31) rfl)) rfl
theorem b_454 : Cond.selects RX0 yX0_hurtAtOnce yX0_hurtAtOnce ∈ BIG := bi (sin_5 _ (List.mem_map.mpr ⟨(yX0_hurtAtOnce, 20), List.mem_of_getElem? (i := 7) rfl, rfl⟩)) rfl
theorem b_455 : Cond.code yX0_likelihood cX0_likelihood 9 (some .int) ∈ BIG := bi (tin_3 _ (List.mem_of_getElem? (i := 216) rfl)) rfl
theorem b_456 : Cond.instanceMethod yX0_likelihood ∈ BIG := bi (tin_3 _ (List.mem_of_getElem? (i := 215) rfl)) rfl
theorem b_457 : Cond.selects RX0 yX0_likelihood yX0_likelihood ∈ BIG := bi (sin_3 _ (List.mem_map.mpr ⟨(yX0_likelihood, 20), List.mem_of_getElem? (i := 1) rfl, rfl⟩)) rfl
theorem b_458 : Cond.code yX0_sharpest cX0_sharpest 4 (some .int) ∈ BIG := bi (tin_5 _ (List.mem_of_getElem? (i := 55) rfl)) rfl
theorem b_459 : Cond.instanceMethod yX0_sharpest ∈ BIG := bi (tin_5 _ (List.mem_of_getElem? (i := 54) rfl)) rfl
theorem b_460 : Cond.selects RX0 yX0_sharpest yX0_sharpest ∈ BIG := bi (sin_5 _ (List.mem_map.mpr ⟨(yX0_sharpest, 20), List.mem_of_getElem? (i := 8) rfl, rfl⟩)) rfl
theorem m_yX11_isSeed : MS yX11_isSeed cX11_isSeed 1 (some .boolean) 1 := ⟨b_423, b_424, b_332, by decide +kernel⟩
theorem m_yX0_beliefBehindPlan : MV yX0_beliefBehindPlan cX0_beliefBehindPlan 4 (some .int) 1 := ⟨b_425, b_426, b_427, b_21, by decide +kernel⟩
theorem m_yX0_canTell : MV yX0_canTell cX0_canTell 2 (some .boolean) 1 := ⟨b_428, b_429, b_430, b_21, by decide +kernel⟩
theorem m_yX0_costOfWaiting : MV yX0_costOfWaiting cX0_costOfWaiting 5 (some .int) 2 := ⟨b_431, b_432, b_433, b_21, by decide +kernel⟩
theorem m_yX0_drawLeak : MV yX0_drawLeak cX0_drawLeak 5 (some .int) 1 := ⟨b_434, b_435, b_436, b_21, by decide +kernel⟩
theorem m_yX0_fewestToTell : MV yX0_fewestToTell cX0_fewestToTell 3 (some .int) 0 := ⟨b_437, b_438, b_439, b_21, by decide +kernel⟩
theorem m_yX0_hasBelief : MV yX0_hasBelief cX0_hasBelief 2 (some .boolean) 1 := ⟨b_440, b_441, b_442, b_21, by decide +kernel⟩
theorem m_yX0_hasNews : MV yX0_hasNews cX0_hasNews 2 (some .boolean) 1 := ⟨b_443, b_444, b_445, b_21, by decide +kernel⟩
theorem m_yX0_hasPlan : MV yX0_hasPlan cX0_hasPlan 2 (some .boolean) 1 := ⟨b_446, b_447, b_448, b_21, by decide +kernel⟩
theorem m_yX0_hasState : MV yX0_hasState cX0_hasState 2 (some .boolean) 1 := ⟨b_449, b_450, b_451, b_21, by decide +kernel⟩
theorem m_yX0_hurtAtOnce : MV yX0_hurtAtOnce cX0_hurtAtOnce 2 (some .int) 1 := ⟨b_452, b_453, b_454, b_21, by decide +kernel⟩
theorem m_yX0_likelihood : MV yX0_likelihood cX0_likelihood 9 (some .int) 4 := ⟨b_455, b_456, b_457, b_21, by decide +kernel⟩
theorem m_yX0_sharpest : MV yX0_sharpest cX0_sharpest 4 (some .int) 1 := ⟨b_458, b_459, b_460, b_21, by decide +kernel⟩
theorem dX11_behind_0 : decode cX11_behind 0 = .ok (.aload_n 0, 1) := by decide +kernel
theorem dX11_behind_1 : decode cX11_behind 1 = .ok (.getfield 19, 3) := by decide +kernel
theorem dX11_behind_4 : decode cX11_behind 4 = .ok (.iload_n 1, 1) := by decide +kernel
theorem dX11_behind_5 : decode cX11_behind 5 = .ok (.invokevirtual 159, 3) := by decide +kernel
theorem dX11_behind_8 : decode cX11_behind 8 = .ok (.ifCond .eq 14, 3) := by decide +kernel
theorem dX11_behind_11 : decode cX11_behind 11 = .ok (.aload_n 0, 1) := by decide +kernel
theorem dX11_behind_12 : decode cX11_behind 12 = .ok (.getfield 19, 3) := by decide +kernel
theorem dX11_behind_15 : decode cX11_behind 15 = .ok (.iload_n 2, 1) := by decide +kernel
theorem dX11_behind_16 : decode cX11_behind 16 = .ok (.invokevirtual 169, 3) := by decide +kernel
theorem dX11_behind_19 : decode cX11_behind 19 = .ok (.ifCond .ne 6, 3) := by decide +kernel
theorem dX11_behind_22 : decode cX11_behind 22 = .ok (.bipush (-2), 2) := by decide +kernel
theorem dX11_behind_24 : decode cX11_behind 24 = .ok (.ireturn, 1) := by decide +kernel
theorem dX11_behind_25 : decode cX11_behind 25 = .ok (.aload_n 0, 1) := by decide +kernel
theorem dX11_behind_26 : decode cX11_behind 26 = .ok (.getfield 19, 3) := by decide +kernel
theorem dX11_behind_29 : decode cX11_behind 29 = .ok (.iload_n 1, 1) := by decide +kernel
theorem dX11_behind_30 : decode cX11_behind 30 = .ok (.iload_n 2, 1) := by decide +kernel
theorem dX11_behind_31 : decode cX11_behind 31 = .ok (.invokevirtual 172, 3) := by decide +kernel
theorem dX11_behind_34 : decode cX11_behind 34 = .ok (.ireturn, 1) := by decide +kernel
theorem dX11_calm_0 : decode cX11_calm 0 = .ok (.aload_n 0, 1) := by decide +kernel
theorem dX11_calm_1 : decode cX11_calm 1 = .ok (.getfield 19, 3) := by decide +kernel
theorem dX11_calm_4 : decode cX11_calm 4 = .ok (.iload_n 1, 1) := by decide +kernel
theorem dX11_calm_5 : decode cX11_calm 5 = .ok (.invokevirtual 122, 3) := by decide +kernel
theorem dX11_calm_8 : decode cX11_calm 8 = .ok (.ifCond .eq 14, 3) := by decide +kernel
theorem dX11_calm_11 : decode cX11_calm 11 = .ok (.aload_n 0, 1) := by decide +kernel
theorem dX11_calm_12 : decode cX11_calm 12 = .ok (.getfield 19, 3) := by decide +kernel
theorem dX11_calm_15 : decode cX11_calm 15 = .ok (.iload_n 2, 1) := by decide +kernel
theorem dX11_calm_16 : decode cX11_calm 16 = .ok (.invokevirtual 159, 3) := by decide +kernel
theorem dX11_calm_19 : decode cX11_calm 19 = .ok (.ifCond .ne 6, 3) := by decide +kernel
theorem dX11_calm_22 : decode cX11_calm 22 = .ok (.bipush (-2), 2) := by decide +kernel
theorem dX11_calm_24 : decode cX11_calm 24 = .ok (.ireturn, 1) := by decide +kernel
theorem dX11_calm_25 : decode cX11_calm 25 = .ok (.iconst 0, 1) := by decide +kernel
theorem dX11_calm_26 : decode cX11_calm 26 = .ok (.istore_n 3, 1) := by decide +kernel
theorem dX11_calm_27 : decode cX11_calm 27 = .ok (.iconst 0, 1) := by decide +kernel
theorem dX11_calm_28 : decode cX11_calm 28 = .ok (.istore 4, 2) := by decide +kernel
theorem dX11_calm_30 : decode cX11_calm 30 = .ok (.iload 4, 2) := by decide +kernel
theorem dX11_calm_32 : decode cX11_calm 32 = .ok (.aload_n 0, 1) := by decide +kernel
theorem dX11_calm_33 : decode cX11_calm 33 = .ok (.getfield 19, 3) := by decide +kernel
theorem dX11_calm_36 : decode cX11_calm 36 = .ok (.getfield 264, 3) := by decide +kernel
theorem dX11_calm_39 : decode cX11_calm 39 = .ok (.if_icmp .ge 32, 3) := by decide +kernel
theorem dX11_calm_42 : decode cX11_calm 42 = .ok (.aload_n 0, 1) := by decide +kernel
theorem dX11_calm_43 : decode cX11_calm 43 = .ok (.getfield 19, 3) := by decide +kernel
theorem dX11_calm_46 : decode cX11_calm 46 = .ok (.iload_n 1, 1) := by decide +kernel
theorem dX11_calm_47 : decode cX11_calm 47 = .ok (.iload_n 2, 1) := by decide +kernel
theorem dX11_calm_48 : decode cX11_calm 48 = .ok (.iconst 1, 1) := by decide +kernel
theorem dX11_calm_49 : decode cX11_calm 49 = .ok (.iload 4, 2) := by decide +kernel
theorem dX11_calm_51 : decode cX11_calm 51 = .ok (.ishl, 1) := by decide +kernel
theorem dX11_calm_52 : decode cX11_calm 52 = .ok (.invokevirtual 175, 3) := by decide +kernel
theorem dX11_calm_55 : decode cX11_calm 55 = .ok (.ifCond .ne 10, 3) := by decide +kernel
theorem dX11_calm_58 : decode cX11_calm 58 = .ok (.iload_n 3, 1) := by decide +kernel
theorem dX11_calm_59 : decode cX11_calm 59 = .ok (.iconst 1, 1) := by decide +kernel
theorem dX11_calm_60 : decode cX11_calm 60 = .ok (.iload 4, 2) := by decide +kernel
theorem dX11_calm_62 : decode cX11_calm 62 = .ok (.ishl, 1) := by decide +kernel
theorem dX11_calm_63 : decode cX11_calm 63 = .ok (.ior, 1) := by decide +kernel
theorem dX11_calm_64 : decode cX11_calm 64 = .ok (.istore_n 3, 1) := by decide +kernel
theorem dX11_calm_65 : decode cX11_calm 65 = .ok (.iinc 4 1, 3) := by decide +kernel
theorem dX11_calm_68 : decode cX11_calm 68 = .ok (.goto (-38), 3) := by decide +kernel
theorem dX11_calm_71 : decode cX11_calm 71 = .ok (.iload_n 3, 1) := by decide +kernel
theorem dX11_calm_72 : decode cX11_calm 72 = .ok (.ireturn, 1) := by decide +kernel
theorem dX11_chance_0 : decode cX11_chance 0 = .ok (.aload_n 0, 1) := by decide +kernel
theorem dX11_chance_1 : decode cX11_chance 1 = .ok (.getfield 19, 3) := by decide +kernel
theorem dX11_chance_4 : decode cX11_chance 4 = .ok (.iload_n 1, 1) := by decide +kernel
theorem dX11_chance_5 : decode cX11_chance 5 = .ok (.invokevirtual 122, 3) := by decide +kernel
theorem dX11_chance_8 : decode cX11_chance 8 = .ok (.ifCond .eq 14, 3) := by decide +kernel
theorem dX11_chance_11 : decode cX11_chance 11 = .ok (.aload_n 0, 1) := by decide +kernel
theorem dX11_chance_12 : decode cX11_chance 12 = .ok (.getfield 19, 3) := by decide +kernel
theorem dX11_chance_15 : decode cX11_chance 15 = .ok (.iload_n 2, 1) := by decide +kernel
theorem dX11_chance_16 : decode cX11_chance 16 = .ok (.invokevirtual 159, 3) := by decide +kernel
theorem dX11_chance_19 : decode cX11_chance 19 = .ok (.ifCond .ne 6, 3) := by decide +kernel
theorem dX11_chance_22 : decode cX11_chance 22 = .ok (.bipush (-2), 2) := by decide +kernel
theorem dX11_chance_24 : decode cX11_chance 24 = .ok (.ireturn, 1) := by decide +kernel
theorem dX11_chance_25 : decode cX11_chance 25 = .ok (.aload_n 0, 1) := by decide +kernel
theorem dX11_chance_26 : decode cX11_chance 26 = .ok (.getfield 19, 3) := by decide +kernel
theorem dX11_chance_29 : decode cX11_chance 29 = .ok (.iload_n 3, 1) := by decide +kernel
theorem dX11_chance_30 : decode cX11_chance 30 = .ok (.invokevirtual 114, 3) := by decide +kernel
theorem dX11_chance_33 : decode cX11_chance 33 = .ok (.ifCond .eq 14, 3) := by decide +kernel
theorem dX11_chance_36 : decode cX11_chance 36 = .ok (.iload 4, 2) := by decide +kernel
theorem dX11_chance_38 : decode cX11_chance 38 = .ok (.ifCond .lt 9, 3) := by decide +kernel
theorem dX11_chance_41 : decode cX11_chance 41 = .ok (.iload 4, 2) := by decide +kernel
theorem dX11_chance_43 : decode cX11_chance 43 = .ok (.iconst 1, 1) := by decide +kernel
theorem dX11_chance_44 : decode cX11_chance 44 = .ok (.if_icmp .le 6, 3) := by decide +kernel
theorem dX11_chance_47 : decode cX11_chance 47 = .ok (.bipush (-2), 2) := by decide +kernel
theorem dX11_chance_49 : decode cX11_chance 49 = .ok (.ireturn, 1) := by decide +kernel
theorem dX11_chance_50 : decode cX11_chance 50 = .ok (.aload_n 0, 1) := by decide +kernel
theorem dX11_chance_51 : decode cX11_chance 51 = .ok (.getfield 19, 3) := by decide +kernel
theorem dX11_chance_54 : decode cX11_chance 54 = .ok (.iload_n 1, 1) := by decide +kernel
theorem dX11_chance_55 : decode cX11_chance 55 = .ok (.iload_n 2, 1) := by decide +kernel
theorem dX11_chance_56 : decode cX11_chance 56 = .ok (.iload_n 3, 1) := by decide +kernel
theorem dX11_chance_57 : decode cX11_chance 57 = .ok (.iload 4, 2) := by decide +kernel
theorem dX11_chance_59 : decode cX11_chance 59 = .ok (.invokevirtual 165, 3) := by decide +kernel
theorem dX11_chance_62 : decode cX11_chance 62 = .ok (.ireturn, 1) := by decide +kernel
theorem dX11_ends_0 : decode cX11_ends 0 = .ok (.aload_n 0, 1) := by decide +kernel
theorem dX11_ends_1 : decode cX11_ends 1 = .ok (.getfield 19, 3) := by decide +kernel
theorem dX11_ends_4 : decode cX11_ends 4 = .ok (.iload_n 1, 1) := by decide +kernel
theorem dX11_ends_5 : decode cX11_ends 5 = .ok (.invokevirtual 144, 3) := by decide +kernel
theorem dX11_ends_8 : decode cX11_ends 8 = .ok (.ifCond .eq 14, 3) := by decide +kernel
theorem dX11_ends_11 : decode cX11_ends 11 = .ok (.aload_n 0, 1) := by decide +kernel
theorem dX11_ends_12 : decode cX11_ends 12 = .ok (.getfield 19, 3) := by decide +kernel
theorem dX11_ends_15 : decode cX11_ends 15 = .ok (.iload_n 1, 1) := by decide +kernel
theorem dX11_ends_16 : decode cX11_ends 16 = .ok (.invokevirtual 314, 3) := by decide +kernel
theorem dX11_ends_19 : decode cX11_ends 19 = .ok (.goto 5, 3) := by decide +kernel
theorem dX11_ends_22 : decode cX11_ends 22 = .ok (.bipush (-2), 2) := by decide +kernel
theorem dX11_ends_24 : decode cX11_ends 24 = .ok (.ireturn, 1) := by decide +kernel
theorem dX11_first_0 : decode cX11_first 0 = .ok (.aload_n 0, 1) := by decide +kernel
theorem dX11_first_1 : decode cX11_first 1 = .ok (.getfield 19, 3) := by decide +kernel
theorem dX11_first_4 : decode cX11_first 4 = .ok (.invokevirtual 245, 3) := by decide +kernel
theorem dX11_first_7 : decode cX11_first 7 = .ok (.ifCond .eq 13, 3) := by decide +kernel
theorem dX11_first_10 : decode cX11_first 10 = .ok (.aload_n 0, 1) := by decide +kernel
theorem dX11_first_11 : decode cX11_first 11 = .ok (.getfield 19, 3) := by decide +kernel
theorem dX11_first_14 : decode cX11_first 14 = .ok (.invokevirtual 339, 3) := by decide +kernel
theorem dX11_first_17 : decode cX11_first 17 = .ok (.goto 5, 3) := by decide +kernel
theorem dX11_first_20 : decode cX11_first 20 = .ok (.bipush (-2), 2) := by decide +kernel
theorem dX11_first_22 : decode cX11_first 22 = .ok (.ireturn, 1) := by decide +kernel
theorem dX11_grade_0 : decode cX11_grade 0 = .ok (.aload_n 0, 1) := by decide +kernel
theorem dX11_grade_1 : decode cX11_grade 1 = .ok (.getfield 19, 3) := by decide +kernel
theorem dX11_grade_4 : decode cX11_grade 4 = .ok (.iload_n 1, 1) := by decide +kernel
theorem dX11_grade_5 : decode cX11_grade 5 = .ok (.invokevirtual 114, 3) := by decide +kernel
theorem dX11_grade_8 : decode cX11_grade 8 = .ok (.ifCond .eq 15, 3) := by decide +kernel
theorem dX11_grade_11 : decode cX11_grade 11 = .ok (.aload_n 0, 1) := by decide +kernel
theorem dX11_grade_12 : decode cX11_grade 12 = .ok (.getfield 19, 3) := by decide +kernel
theorem dX11_grade_15 : decode cX11_grade 15 = .ok (.getfield 118, 3) := by decide +kernel
theorem dX11_grade_18 : decode cX11_grade 18 = .ok (.iload_n 1, 1) := by decide +kernel
theorem dX11_grade_19 : decode cX11_grade 19 = .ok (.iaload, 1) := by decide +kernel
theorem dX11_grade_20 : decode cX11_grade 20 = .ok (.goto 5, 3) := by decide +kernel
theorem dX11_grade_23 : decode cX11_grade 23 = .ok (.bipush (-2), 2) := by decide +kernel
theorem dX11_grade_25 : decode cX11_grade 25 = .ok (.ireturn, 1) := by decide +kernel
theorem dX11_heard_0 : decode cX11_heard 0 = .ok (.aload_n 0, 1) := by decide +kernel
theorem dX11_heard_1 : decode cX11_heard 1 = .ok (.getfield 19, 3) := by decide +kernel
theorem dX11_heard_4 : decode cX11_heard 4 = .ok (.invokevirtual 245, 3) := by decide +kernel
theorem dX11_heard_7 : decode cX11_heard 7 = .ok (.ifCond .eq 22, 3) := by decide +kernel
theorem dX11_heard_10 : decode cX11_heard 10 = .ok (.iload_n 1, 1) := by decide +kernel
theorem dX11_heard_11 : decode cX11_heard 11 = .ok (.ifCond .lt 18, 3) := by decide +kernel
theorem dX11_heard_14 : decode cX11_heard 14 = .ok (.iload_n 1, 1) := by decide +kernel
theorem dX11_heard_15 : decode cX11_heard 15 = .ok (.aload_n 0, 1) := by decide +kernel
theorem dX11_heard_16 : decode cX11_heard 16 = .ok (.getfield 19, 3) := by decide +kernel
theorem dX11_heard_19 : decode cX11_heard 19 = .ok (.invokevirtual 333, 3) := by decide +kernel
theorem dX11_heard_22 : decode cX11_heard 22 = .ok (.if_icmp .gt 7, 3) := by decide +kernel
theorem dX11_heard_25 : decode cX11_heard 25 = .ok (.iload_n 2, 1) := by decide +kernel
theorem dX11_heard_26 : decode cX11_heard 26 = .ok (.ifCond .ge 6, 3) := by decide +kernel
theorem dX11_heard_29 : decode cX11_heard 29 = .ok (.bipush (-2), 2) := by decide +kernel
theorem dX11_heard_31 : decode cX11_heard 31 = .ok (.ireturn, 1) := by decide +kernel
theorem dX11_heard_32 : decode cX11_heard 32 = .ok (.aload_n 0, 1) := by decide +kernel
theorem dX11_heard_33 : decode cX11_heard 33 = .ok (.getfield 19, 3) := by decide +kernel
theorem dX11_heard_36 : decode cX11_heard 36 = .ok (.iload_n 1, 1) := by decide +kernel
theorem dX11_heard_37 : decode cX11_heard 37 = .ok (.iload_n 2, 1) := by decide +kernel
theorem dX11_heard_38 : decode cX11_heard 38 = .ok (.invokevirtual 336, 3) := by decide +kernel
theorem dX11_heard_41 : decode cX11_heard 41 = .ok (.ireturn, 1) := by decide +kernel
theorem dX11_hurt_0 : decode cX11_hurt 0 = .ok (.aload_n 0, 1) := by decide +kernel
theorem dX11_hurt_1 : decode cX11_hurt 1 = .ok (.getfield 19, 3) := by decide +kernel
theorem dX11_hurt_4 : decode cX11_hurt 4 = .ok (.iload_n 1, 1) := by decide +kernel
theorem dX11_hurt_5 : decode cX11_hurt 5 = .ok (.invokevirtual 122, 3) := by decide +kernel
theorem dX11_hurt_8 : decode cX11_hurt 8 = .ok (.ifCond .eq 25, 3) := by decide +kernel
theorem dX11_hurt_11 : decode cX11_hurt 11 = .ok (.aload_n 0, 1) := by decide +kernel
theorem dX11_hurt_12 : decode cX11_hurt 12 = .ok (.getfield 19, 3) := by decide +kernel
theorem dX11_hurt_15 : decode cX11_hurt 15 = .ok (.iload_n 2, 1) := by decide +kernel
theorem dX11_hurt_16 : decode cX11_hurt 16 = .ok (.invokevirtual 159, 3) := by decide +kernel
theorem dX11_hurt_19 : decode cX11_hurt 19 = .ok (.ifCond .eq 14, 3) := by decide +kernel
theorem dX11_hurt_22 : decode cX11_hurt 22 = .ok (.aload_n 0, 1) := by decide +kernel
theorem dX11_hurt_23 : decode cX11_hurt 23 = .ok (.getfield 19, 3) := by decide +kernel
theorem dX11_hurt_26 : decode cX11_hurt 26 = .ok (.iload_n 3, 1) := by decide +kernel
theorem dX11_hurt_27 : decode cX11_hurt 27 = .ok (.invokevirtual 169, 3) := by decide +kernel
theorem dX11_hurt_30 : decode cX11_hurt 30 = .ok (.ifCond .ne 6, 3) := by decide +kernel
theorem dX11_hurt_33 : decode cX11_hurt 33 = .ok (.bipush (-2), 2) := by decide +kernel
theorem dX11_hurt_35 : decode cX11_hurt 35 = .ok (.ireturn, 1) := by decide +kernel
theorem dX11_hurt_36 : decode cX11_hurt 36 = .ok (.aload_n 0, 1) := by decide +kernel
theorem dX11_hurt_37 : decode cX11_hurt 37 = .ok (.getfield 19, 3) := by decide +kernel
theorem dX11_hurt_40 : decode cX11_hurt 40 = .ok (.iload_n 1, 1) := by decide +kernel
theorem dX11_hurt_41 : decode cX11_hurt 41 = .ok (.iload_n 2, 1) := by decide +kernel
theorem dX11_hurt_42 : decode cX11_hurt 42 = .ok (.aload_n 0, 1) := by decide +kernel
theorem dX11_hurt_43 : decode cX11_hurt 43 = .ok (.getfield 19, 3) := by decide +kernel
theorem dX11_hurt_46 : decode cX11_hurt 46 = .ok (.iload_n 2, 1) := by decide +kernel
theorem dX11_hurt_47 : decode cX11_hurt 47 = .ok (.iload_n 3, 1) := by decide +kernel
theorem dX11_hurt_48 : decode cX11_hurt 48 = .ok (.invokevirtual 172, 3) := by decide +kernel
theorem dX11_hurt_51 : decode cX11_hurt 51 = .ok (.invokevirtual 175, 3) := by decide +kernel
theorem dX11_hurt_54 : decode cX11_hurt 54 = .ok (.ireturn, 1) := by decide +kernel
theorem dX11_late_0 : decode cX11_late 0 = .ok (.aload_n 0, 1) := by decide +kernel
theorem dX11_late_1 : decode cX11_late 1 = .ok (.getfield 19, 3) := by decide +kernel
theorem dX11_late_4 : decode cX11_late 4 = .ok (.iload_n 1, 1) := by decide +kernel
theorem dX11_late_5 : decode cX11_late 5 = .ok (.invokevirtual 122, 3) := by decide +kernel
theorem dX11_late_8 : decode cX11_late 8 = .ok (.ifCond .eq 7, 3) := by decide +kernel
theorem dX11_late_11 : decode cX11_late 11 = .ok (.iload_n 2, 1) := by decide +kernel
theorem dX11_late_12 : decode cX11_late 12 = .ok (.ifCond .ge 6, 3) := by decide +kernel
theorem dX11_late_15 : decode cX11_late 15 = .ok (.bipush (-2), 2) := by decide +kernel
theorem dX11_late_17 : decode cX11_late 17 = .ok (.ireturn, 1) := by decide +kernel
theorem dX11_late_18 : decode cX11_late 18 = .ok (.aload_n 0, 1) := by decide +kernel
theorem dX11_late_19 : decode cX11_late 19 = .ok (.getfield 19, 3) := by decide +kernel
theorem dX11_late_22 : decode cX11_late 22 = .ok (.iload_n 1, 1) := by decide +kernel
theorem dX11_late_23 : decode cX11_late 23 = .ok (.invokevirtual 258, 3) := by decide +kernel
theorem dX11_late_26 : decode cX11_late 26 = .ok (.istore_n 3, 1) := by decide +kernel
theorem dX11_late_27 : decode cX11_late 27 = .ok (.aload_n 0, 1) := by decide +kernel
theorem dX11_late_28 : decode cX11_late 28 = .ok (.getfield 19, 3) := by decide +kernel
theorem dX11_late_31 : decode cX11_late 31 = .ok (.getfield 230, 3) := by decide +kernel
theorem dX11_late_34 : decode cX11_late 34 = .ok (.iconst 1, 1) := by decide +kernel
theorem dX11_late_35 : decode cX11_late 35 = .ok (.isub, 1) := by decide +kernel
theorem dX11_late_36 : decode cX11_late 36 = .ok (.istore 4, 2) := by decide +kernel
theorem dX11_late_38 : decode cX11_late 38 = .ok (.iload 4, 2) := by decide +kernel
theorem dX11_late_40 : decode cX11_late 40 = .ok (.ifCond .lt 36, 3) := by decide +kernel
theorem dX11_late_43 : decode cX11_late 43 = .ok (.aload_n 0, 1) := by decide +kernel
theorem dX11_late_44 : decode cX11_late 44 = .ok (.getfield 19, 3) := by decide +kernel
theorem dX11_late_47 : decode cX11_late 47 = .ok (.iload_n 3, 1) := by decide +kernel
theorem dX11_late_48 : decode cX11_late 48 = .ok (.aload_n 0, 1) := by decide +kernel
theorem dX11_late_49 : decode cX11_late 49 = .ok (.getfield 19, 3) := by decide +kernel
theorem dX11_late_52 : decode cX11_late 52 = .ok (.getfield 230, 3) := by decide +kernel
theorem dX11_late_55 : decode cX11_late 55 = .ok (.iconst 1, 1) := by decide +kernel
theorem dX11_late_56 : decode cX11_late 56 = .ok (.isub, 1) := by decide +kernel
theorem dX11_late_57 : decode cX11_late 57 = .ok (.iload 4, 2) := by decide +kernel
theorem dX11_late_59 : decode cX11_late 59 = .ok (.isub, 1) := by decide +kernel
theorem dX11_late_60 : decode cX11_late 60 = .ok (.invokevirtual 261, 3) := by decide +kernel
theorem dX11_late_63 : decode cX11_late 63 = .ok (.iload_n 2, 1) := by decide +kernel
theorem dX11_late_64 : decode cX11_late 64 = .ok (.if_icmp .gt 6, 3) := by decide +kernel
theorem dX11_late_67 : decode cX11_late 67 = .ok (.iload 4, 2) := by decide +kernel
theorem dX11_late_69 : decode cX11_late 69 = .ok (.ireturn, 1) := by decide +kernel
theorem dX11_late_70 : decode cX11_late 70 = .ok (.iinc 4 (-1), 3) := by decide +kernel
theorem dX11_late_73 : decode cX11_late 73 = .ok (.goto (-35), 3) := by decide +kernel
theorem dX11_late_76 : decode cX11_late 76 = .ok (.iconst (-1), 1) := by decide +kernel
theorem dX11_late_77 : decode cX11_late 77 = .ok (.ireturn, 1) := by decide +kernel
theorem dX11_leaks_0 : decode cX11_leaks 0 = .ok (.aload_n 0, 1) := by decide +kernel
theorem dX11_leaks_1 : decode cX11_leaks 1 = .ok (.getfield 19, 3) := by decide +kernel
theorem dX11_leaks_4 : decode cX11_leaks 4 = .ok (.invokevirtual 245, 3) := by decide +kernel
theorem dX11_leaks_7 : decode cX11_leaks 7 = .ok (.ifCond .eq 21, 3) := by decide +kernel
theorem dX11_leaks_10 : decode cX11_leaks 10 = .ok (.iload_n 1, 1) := by decide +kernel
theorem dX11_leaks_11 : decode cX11_leaks 11 = .ok (.invokestatic 371, 3) := by decide +kernel
theorem dX11_leaks_14 : decode cX11_leaks 14 = .ok (.ifCond .eq 14, 3) := by decide +kernel
theorem dX11_leaks_17 : decode cX11_leaks 17 = .ok (.iload_n 2, 1) := by decide +kernel
theorem dX11_leaks_18 : decode cX11_leaks 18 = .ok (.iconst 1, 1) := by decide +kernel
theorem dX11_leaks_19 : decode cX11_leaks 19 = .ok (.if_icmp .lt 9, 3) := by decide +kernel
theorem dX11_leaks_22 : decode cX11_leaks 22 = .ok (.iload_n 2, 1) := by decide +kernel
theorem dX11_leaks_23 : decode cX11_leaks 23 = .ok (.bipush 20, 2) := by decide +kernel
theorem dX11_leaks_25 : decode cX11_leaks 25 = .ok (.if_icmp .le 6, 3) := by decide +kernel
theorem dX11_leaks_28 : decode cX11_leaks 28 = .ok (.bipush (-2), 2) := by decide +kernel
theorem dX11_leaks_30 : decode cX11_leaks 30 = .ok (.ireturn, 1) := by decide +kernel
theorem dX11_leaks_31 : decode cX11_leaks 31 = .ok (.iconst 0, 1) := by decide +kernel
theorem dX11_leaks_32 : decode cX11_leaks 32 = .ok (.istore_n 3, 1) := by decide +kernel
theorem dX11_leaks_33 : decode cX11_leaks 33 = .ok (.iconst 0, 1) := by decide +kernel
theorem dX11_leaks_34 : decode cX11_leaks 34 = .ok (.istore 4, 2) := by decide +kernel
theorem dX11_leaks_36 : decode cX11_leaks 36 = .ok (.iload 4, 2) := by decide +kernel
theorem dX11_leaks_38 : decode cX11_leaks 38 = .ok (.iload_n 2, 1) := by decide +kernel
theorem dX11_leaks_39 : decode cX11_leaks 39 = .ok (.if_icmp .ge 27, 3) := by decide +kernel
theorem dX11_leaks_42 : decode cX11_leaks 42 = .ok (.aload_n 0, 1) := by decide +kernel
theorem dX11_leaks_43 : decode cX11_leaks 43 = .ok (.getfield 19, 3) := by decide +kernel
theorem dX11_leaks_46 : decode cX11_leaks 46 = .ok (.iload_n 1, 1) := by decide +kernel
theorem dX11_leaks_47 : decode cX11_leaks 47 = .ok (.iload 4, 2) := by decide +kernel
theorem dX11_leaks_49 : decode cX11_leaks 49 = .ok (.iadd, 1) := by decide +kernel
theorem dX11_leaks_50 : decode cX11_leaks 50 = .ok (.invokevirtual 374, 3) := by decide +kernel
theorem dX11_leaks_53 : decode cX11_leaks 53 = .ok (.iconst (-1), 1) := by decide +kernel
theorem dX11_leaks_54 : decode cX11_leaks 54 = .ok (.if_icmp .eq 6, 3) := by decide +kernel
theorem dX11_leaks_57 : decode cX11_leaks 57 = .ok (.iinc 3 1, 3) := by decide +kernel
theorem dX11_leaks_60 : decode cX11_leaks 60 = .ok (.iinc 4 1, 3) := by decide +kernel
theorem dX11_leaks_63 : decode cX11_leaks 63 = .ok (.goto (-27), 3) := by decide +kernel
theorem dX11_leaks_66 : decode cX11_leaks 66 = .ok (.iload_n 3, 1) := by decide +kernel
theorem dX11_leaks_67 : decode cX11_leaks 67 = .ok (.ireturn, 1) := by decide +kernel
theorem dX11_mean_0 : decode cX11_mean 0 = .ok (.aload_n 0, 1) := by decide +kernel
theorem dX11_mean_1 : decode cX11_mean 1 = .ok (.getfield 19, 3) := by decide +kernel
theorem dX11_mean_4 : decode cX11_mean 4 = .ok (.iload_n 1, 1) := by decide +kernel
theorem dX11_mean_5 : decode cX11_mean 5 = .ok (.invokevirtual 122, 3) := by decide +kernel
theorem dX11_mean_8 : decode cX11_mean 8 = .ok (.ifCond .eq 14, 3) := by decide +kernel
theorem dX11_mean_11 : decode cX11_mean 11 = .ok (.aload_n 0, 1) := by decide +kernel
theorem dX11_mean_12 : decode cX11_mean 12 = .ok (.getfield 19, 3) := by decide +kernel
theorem dX11_mean_15 : decode cX11_mean 15 = .ok (.iload_n 2, 1) := by decide +kernel
theorem dX11_mean_16 : decode cX11_mean 16 = .ok (.invokevirtual 159, 3) := by decide +kernel
theorem dX11_mean_19 : decode cX11_mean 19 = .ok (.ifCond .ne 6, 3) := by decide +kernel
theorem dX11_mean_22 : decode cX11_mean 22 = .ok (.bipush (-2), 2) := by decide +kernel
theorem dX11_mean_24 : decode cX11_mean 24 = .ok (.ireturn, 1) := by decide +kernel
theorem dX11_mean_25 : decode cX11_mean 25 = .ok (.aload_n 0, 1) := by decide +kernel
theorem dX11_mean_26 : decode cX11_mean 26 = .ok (.getfield 19, 3) := by decide +kernel
theorem dX11_mean_29 : decode cX11_mean 29 = .ok (.iload_n 1, 1) := by decide +kernel
theorem dX11_mean_30 : decode cX11_mean 30 = .ok (.iload_n 2, 1) := by decide +kernel
theorem dX11_mean_31 : decode cX11_mean 31 = .ok (.invokevirtual 162, 3) := by decide +kernel
theorem dX11_mean_34 : decode cX11_mean 34 = .ok (.ireturn, 1) := by decide +kernel
theorem dX11_news_0 : decode cX11_news 0 = .ok (.aload_n 0, 1) := by decide +kernel
theorem dX11_news_1 : decode cX11_news 1 = .ok (.getfield 19, 3) := by decide +kernel
theorem dX11_news_4 : decode cX11_news 4 = .ok (.iload_n 1, 1) := by decide +kernel
theorem dX11_news_5 : decode cX11_news 5 = .ok (.invokevirtual 150, 3) := by decide +kernel
theorem dX11_news_8 : decode cX11_news 8 = .ok (.ifCond .eq 15, 3) := by decide +kernel
theorem dX11_news_11 : decode cX11_news 11 = .ok (.aload_n 0, 1) := by decide +kernel
theorem dX11_news_12 : decode cX11_news 12 = .ok (.getfield 19, 3) := by decide +kernel
theorem dX11_news_15 : decode cX11_news 15 = .ok (.getfield 153, 3) := by decide +kernel
theorem dX11_news_18 : decode cX11_news 18 = .ok (.iload_n 1, 1) := by decide +kernel
theorem dX11_news_19 : decode cX11_news 19 = .ok (.iaload, 1) := by decide +kernel
theorem dX11_news_20 : decode cX11_news 20 = .ok (.goto 6, 3) := by decide +kernel
theorem dX11_news_23 : decode cX11_news 23 = .ok (.sipush (-1000), 3) := by decide +kernel
theorem dX11_news_26 : decode cX11_news 26 = .ok (.ireturn, 1) := by decide +kernel
theorem dX11_once_0 : decode cX11_once 0 = .ok (.aload_n 0, 1) := by decide +kernel
theorem dX11_once_1 : decode cX11_once 1 = .ok (.getfield 19, 3) := by decide +kernel
theorem dX11_once_4 : decode cX11_once 4 = .ok (.iload_n 1, 1) := by decide +kernel
theorem dX11_once_5 : decode cX11_once 5 = .ok (.invokevirtual 122, 3) := by decide +kernel
theorem dX11_once_8 : decode cX11_once 8 = .ok (.ifCond .eq 14, 3) := by decide +kernel
theorem dX11_once_11 : decode cX11_once 11 = .ok (.aload_n 0, 1) := by decide +kernel
theorem dX11_once_12 : decode cX11_once 12 = .ok (.getfield 19, 3) := by decide +kernel
theorem dX11_once_15 : decode cX11_once 15 = .ok (.iload_n 1, 1) := by decide +kernel
theorem dX11_once_16 : decode cX11_once 16 = .ok (.invokevirtual 258, 3) := by decide +kernel
theorem dX11_once_19 : decode cX11_once 19 = .ok (.goto 5, 3) := by decide +kernel
theorem dX11_once_22 : decode cX11_once 22 = .ok (.bipush (-2), 2) := by decide +kernel
theorem dX11_once_24 : decode cX11_once 24 = .ok (.ireturn, 1) := by decide +kernel
theorem dX11_plan_0 : decode cX11_plan 0 = .ok (.aload_n 0, 1) := by decide +kernel
theorem dX11_plan_1 : decode cX11_plan 1 = .ok (.getfield 19, 3) := by decide +kernel
theorem dX11_plan_4 : decode cX11_plan 4 = .ok (.iload_n 1, 1) := by decide +kernel
theorem dX11_plan_5 : decode cX11_plan 5 = .ok (.invokevirtual 144, 3) := by decide +kernel
theorem dX11_plan_8 : decode cX11_plan 8 = .ok (.ifCond .ne 6, 3) := by decide +kernel
theorem dX11_plan_11 : decode cX11_plan 11 = .ok (.bipush (-2), 2) := by decide +kernel
theorem dX11_plan_13 : decode cX11_plan 13 = .ok (.ireturn, 1) := by decide +kernel
theorem dX11_plan_14 : decode cX11_plan 14 = .ok (.aload_n 0, 1) := by decide +kernel
theorem dX11_plan_15 : decode cX11_plan 15 = .ok (.getfield 19, 3) := by decide +kernel
theorem dX11_plan_18 : decode cX11_plan 18 = .ok (.iload_n 1, 1) := by decide +kernel
theorem dX11_plan_19 : decode cX11_plan 19 = .ok (.iload_n 2, 1) := by decide +kernel
theorem dX11_plan_20 : decode cX11_plan 20 = .ok (.invokevirtual 147, 3) := by decide +kernel
theorem dX11_plan_23 : decode cX11_plan 23 = .ok (.ireturn, 1) := by decide +kernel
theorem dX11_shock_0 : decode cX11_shock 0 = .ok (.aload_n 0, 1) := by decide +kernel
theorem dX11_shock_1 : decode cX11_shock 1 = .ok (.getfield 19, 3) := by decide +kernel
theorem dX11_shock_4 : decode cX11_shock 4 = .ok (.iload_n 1, 1) := by decide +kernel
theorem dX11_shock_5 : decode cX11_shock 5 = .ok (.invokevirtual 122, 3) := by decide +kernel
theorem dX11_shock_8 : decode cX11_shock 8 = .ok (.ifCond .ne 6, 3) := by decide +kernel
theorem dX11_shock_11 : decode cX11_shock 11 = .ok (.bipush (-2), 2) := by decide +kernel
theorem dX11_shock_13 : decode cX11_shock 13 = .ok (.ireturn, 1) := by decide +kernel
theorem dX11_shock_14 : decode cX11_shock 14 = .ok (.iconst 0, 1) := by decide +kernel
theorem dX11_shock_15 : decode cX11_shock 15 = .ok (.istore_n 2, 1) := by decide +kernel
theorem dX11_shock_16 : decode cX11_shock 16 = .ok (.iconst 0, 1) := by decide +kernel
theorem dX11_shock_17 : decode cX11_shock 17 = .ok (.istore_n 3, 1) := by decide +kernel
theorem dX11_shock_18 : decode cX11_shock 18 = .ok (.iconst 0, 1) := by decide +kernel
theorem dX11_shock_19 : decode cX11_shock 19 = .ok (.istore 4, 2) := by decide +kernel
theorem dX11_shock_21 : decode cX11_shock 21 = .ok (.iload 4, 2) := by decide +kernel
theorem dX11_shock_23 : decode cX11_shock 23 = .ok (.aload_n 0, 1) := by decide +kernel
theorem dX11_shock_24 : decode cX11_shock 24 = .ok (.getfield 19, 3) := by decide +kernel
theorem dX11_shock_27 : decode cX11_shock 27 = .ok (.getfield 264, 3) := by decide +kernel
theorem dX11_shock_30 : decode cX11_shock 30 = .ok (.if_icmp .ge 42, 3) := by decide +kernel
theorem dX11_shock_33 : decode cX11_shock 33 = .ok (.aload_n 0, 1) := by decide +kernel
theorem dX11_shock_34 : decode cX11_shock 34 = .ok (.getfield 19, 3) := by decide +kernel
theorem dX11_shock_37 : decode cX11_shock 37 = .ok (.iload_n 1, 1) := by decide +kernel
theorem dX11_shock_38 : decode cX11_shock 38 = .ok (.aload_n 0, 1) := by decide +kernel
theorem dX11_shock_39 : decode cX11_shock 39 = .ok (.getfield 19, 3) := by decide +kernel
theorem dX11_shock_42 : decode cX11_shock 42 = .ok (.invokevirtual 248, 3) := by decide +kernel
theorem dX11_shock_45 : decode cX11_shock 45 = .ok (.iconst 1, 1) := by decide +kernel
theorem dX11_shock_46 : decode cX11_shock 46 = .ok (.iload 4, 2) := by decide +kernel
theorem dX11_shock_48 : decode cX11_shock 48 = .ok (.ishl, 1) := by decide +kernel
theorem dX11_shock_49 : decode cX11_shock 49 = .ok (.invokevirtual 175, 3) := by decide +kernel
theorem dX11_shock_52 : decode cX11_shock 52 = .ok (.istore 5, 2) := by decide +kernel
theorem dX11_shock_54 : decode cX11_shock 54 = .ok (.iload 5, 2) := by decide +kernel
theorem dX11_shock_56 : decode cX11_shock 56 = .ok (.iload_n 3, 1) := by decide +kernel
theorem dX11_shock_57 : decode cX11_shock 57 = .ok (.if_icmp .le 9, 3) := by decide +kernel
theorem dX11_shock_60 : decode cX11_shock 60 = .ok (.iload 5, 2) := by decide +kernel
theorem dX11_shock_62 : decode cX11_shock 62 = .ok (.istore_n 3, 1) := by decide +kernel
theorem dX11_shock_63 : decode cX11_shock 63 = .ok (.iload 4, 2) := by decide +kernel
theorem dX11_shock_65 : decode cX11_shock 65 = .ok (.istore_n 2, 1) := by decide +kernel
theorem dX11_shock_66 : decode cX11_shock 66 = .ok (.iinc 4 1, 3) := by decide +kernel
theorem dX11_shock_69 : decode cX11_shock 69 = .ok (.goto (-48), 3) := by decide +kernel
theorem dX11_shock_72 : decode cX11_shock 72 = .ok (.iload_n 2, 1) := by decide +kernel
theorem dX11_shock_73 : decode cX11_shock 73 = .ok (.ireturn, 1) := by decide +kernel
theorem dX11_softest_0 : decode cX11_softest 0 = .ok (.aload_n 0, 1) := by decide +kernel
theorem dX11_softest_1 : decode cX11_softest 1 = .ok (.getfield 19, 3) := by decide +kernel
theorem dX11_softest_4 : decode cX11_softest 4 = .ok (.iload_n 1, 1) := by decide +kernel
theorem dX11_softest_5 : decode cX11_softest 5 = .ok (.invokevirtual 122, 3) := by decide +kernel
theorem dX11_softest_8 : decode cX11_softest 8 = .ok (.ifCond .eq 14, 3) := by decide +kernel
theorem dX11_softest_11 : decode cX11_softest 11 = .ok (.aload_n 0, 1) := by decide +kernel
theorem dX11_softest_12 : decode cX11_softest 12 = .ok (.getfield 19, 3) := by decide +kernel
theorem dX11_softest_15 : decode cX11_softest 15 = .ok (.iload_n 2, 1) := by decide +kernel
theorem dX11_softest_16 : decode cX11_softest 16 = .ok (.invokevirtual 159, 3) := by decide +kernel
theorem dX11_softest_19 : decode cX11_softest 19 = .ok (.ifCond .ne 6, 3) := by decide +kernel
theorem dX11_softest_22 : decode cX11_softest 22 = .ok (.bipush (-2), 2) := by decide +kernel
theorem dX11_softest_24 : decode cX11_softest 24 = .ok (.ireturn, 1) := by decide +kernel
theorem dX11_softest_25 : decode cX11_softest 25 = .ok (.iconst (-1), 1) := by decide +kernel
theorem dX11_softest_26 : decode cX11_softest 26 = .ok (.istore_n 3, 1) := by decide +kernel
theorem dX11_softest_27 : decode cX11_softest 27 = .ok (.ldc 179, 2) := by decide +kernel
theorem dX11_softest_29 : decode cX11_softest 29 = .ok (.istore 4, 2) := by decide +kernel
theorem dX11_softest_31 : decode cX11_softest 31 = .ok (.iconst 0, 1) := by decide +kernel
theorem dX11_softest_32 : decode cX11_softest 32 = .ok (.istore 5, 2) := by decide +kernel
theorem dX11_softest_34 : decode cX11_softest 34 = .ok (.iload 5, 2) := by decide +kernel
theorem dX11_softest_36 : decode cX11_softest 36 = .ok (.aload_n 0, 1) := by decide +kernel
theorem dX11_softest_37 : decode cX11_softest 37 = .ok (.getfield 19, 3) := by decide +kernel
theorem dX11_softest_40 : decode cX11_softest 40 = .ok (.getfield 180, 3) := by decide +kernel
theorem dX11_softest_43 : decode cX11_softest 43 = .ok (.if_icmp .ge 44, 3) := by decide +kernel
theorem dX11_softest_46 : decode cX11_softest 46 = .ok (.aload_n 0, 1) := by decide +kernel
theorem dX11_softest_47 : decode cX11_softest 47 = .ok (.getfield 19, 3) := by decide +kernel
theorem dX11_softest_50 : decode cX11_softest 50 = .ok (.iload_n 1, 1) := by decide +kernel
theorem dX11_softest_51 : decode cX11_softest 51 = .ok (.iload_n 2, 1) := by decide +kernel
theorem dX11_softest_52 : decode cX11_softest 52 = .ok (.aload_n 0, 1) := by decide +kernel
theorem dX11_softest_53 : decode cX11_softest 53 = .ok (.getfield 19, 3) := by decide +kernel
theorem dX11_softest_56 : decode cX11_softest 56 = .ok (.iload_n 2, 1) := by decide +kernel
theorem dX11_softest_57 : decode cX11_softest 57 = .ok (.iload 5, 2) := by decide +kernel
theorem dX11_softest_59 : decode cX11_softest 59 = .ok (.invokevirtual 172, 3) := by decide +kernel
theorem dX11_softest_62 : decode cX11_softest 62 = .ok (.invokevirtual 175, 3) := by decide +kernel
theorem dX11_softest_65 : decode cX11_softest 65 = .ok (.istore 6, 2) := by decide +kernel
theorem dX11_softest_67 : decode cX11_softest 67 = .ok (.iload 6, 2) := by decide +kernel
theorem dX11_softest_69 : decode cX11_softest 69 = .ok (.iload 4, 2) := by decide +kernel
theorem dX11_softest_71 : decode cX11_softest 71 = .ok (.if_icmp .ge 10, 3) := by decide +kernel
theorem dX11_softest_74 : decode cX11_softest 74 = .ok (.iload 6, 2) := by decide +kernel
theorem dX11_softest_76 : decode cX11_softest 76 = .ok (.istore 4, 2) := by decide +kernel
theorem dX11_softest_78 : decode cX11_softest 78 = .ok (.iload 5, 2) := by decide +kernel
theorem dX11_softest_80 : decode cX11_softest 80 = .ok (.istore_n 3, 1) := by decide +kernel
theorem dX11_softest_81 : decode cX11_softest 81 = .ok (.iinc 5 1, 3) := by decide +kernel
theorem dX11_softest_84 : decode cX11_softest 84 = .ok (.goto (-50), 3) := by decide +kernel
theorem dX11_softest_87 : decode cX11_softest 87 = .ok (.iload_n 3, 1) := by decide +kernel
theorem dX11_softest_88 : decode cX11_softest 88 = .ok (.ireturn, 1) := by decide +kernel
theorem dX11_soon_0 : decode cX11_soon 0 = .ok (.aload_n 0, 1) := by decide +kernel
theorem dX11_soon_1 : decode cX11_soon 1 = .ok (.getfield 19, 3) := by decide +kernel
theorem dX11_soon_4 : decode cX11_soon 4 = .ok (.iload_n 1, 1) := by decide +kernel
theorem dX11_soon_5 : decode cX11_soon 5 = .ok (.invokevirtual 122, 3) := by decide +kernel
theorem dX11_soon_8 : decode cX11_soon 8 = .ok (.ifCond .eq 12, 3) := by decide +kernel
theorem dX11_soon_11 : decode cX11_soon 11 = .ok (.iload_n 2, 1) := by decide +kernel
theorem dX11_soon_12 : decode cX11_soon 12 = .ok (.ifCond .lt 8, 3) := by decide +kernel
theorem dX11_soon_15 : decode cX11_soon 15 = .ok (.iload_n 2, 1) := by decide +kernel
theorem dX11_soon_16 : decode cX11_soon 16 = .ok (.iconst 1, 1) := by decide +kernel
theorem dX11_soon_17 : decode cX11_soon 17 = .ok (.if_icmp .le 6, 3) := by decide +kernel
theorem dX11_soon_20 : decode cX11_soon 20 = .ok (.bipush (-2), 2) := by decide +kernel
theorem dX11_soon_22 : decode cX11_soon 22 = .ok (.ireturn, 1) := by decide +kernel
theorem dX11_soon_23 : decode cX11_soon 23 = .ok (.iconst 0, 1) := by decide +kernel
theorem dX11_soon_24 : decode cX11_soon 24 = .ok (.istore_n 3, 1) := by decide +kernel
theorem dX11_soon_25 : decode cX11_soon 25 = .ok (.ldc 179, 2) := by decide +kernel
theorem dX11_soon_27 : decode cX11_soon 27 = .ok (.istore 4, 2) := by decide +kernel
theorem dX11_soon_29 : decode cX11_soon 29 = .ok (.aload_n 0, 1) := by decide +kernel
theorem dX11_soon_30 : decode cX11_soon 30 = .ok (.getfield 19, 3) := by decide +kernel
theorem dX11_soon_33 : decode cX11_soon 33 = .ok (.iload_n 1, 1) := by decide +kernel
theorem dX11_soon_34 : decode cX11_soon 34 = .ok (.invokevirtual 258, 3) := by decide +kernel
theorem dX11_soon_37 : decode cX11_soon 37 = .ok (.istore 5, 2) := by decide +kernel
theorem dX11_soon_39 : decode cX11_soon 39 = .ok (.iconst 0, 1) := by decide +kernel
theorem dX11_soon_40 : decode cX11_soon 40 = .ok (.istore 6, 2) := by decide +kernel
theorem dX11_soon_42 : decode cX11_soon 42 = .ok (.iload 6, 2) := by decide +kernel
theorem dX11_soon_44 : decode cX11_soon 44 = .ok (.aload_n 0, 1) := by decide +kernel
theorem dX11_soon_45 : decode cX11_soon 45 = .ok (.getfield 19, 3) := by decide +kernel
theorem dX11_soon_48 : decode cX11_soon 48 = .ok (.getfield 230, 3) := by decide +kernel
theorem dX11_soon_51 : decode cX11_soon 51 = .ok (.if_icmp .ge 36, 3) := by decide +kernel
theorem dX11_soon_54 : decode cX11_soon 54 = .ok (.aload_n 0, 1) := by decide +kernel
theorem dX11_soon_55 : decode cX11_soon 55 = .ok (.getfield 19, 3) := by decide +kernel
theorem dX11_soon_58 : decode cX11_soon 58 = .ok (.iload 5, 2) := by decide +kernel
theorem dX11_soon_60 : decode cX11_soon 60 = .ok (.iload 6, 2) := by decide +kernel
theorem dX11_soon_62 : decode cX11_soon 62 = .ok (.invokevirtual 296, 3) := by decide +kernel
theorem dX11_soon_65 : decode cX11_soon 65 = .ok (.istore 7, 2) := by decide +kernel
theorem dX11_soon_67 : decode cX11_soon 67 = .ok (.iload 7, 2) := by decide +kernel
theorem dX11_soon_69 : decode cX11_soon 69 = .ok (.iload 4, 2) := by decide +kernel
theorem dX11_soon_71 : decode cX11_soon 71 = .ok (.if_icmp .ge 10, 3) := by decide +kernel
theorem dX11_soon_74 : decode cX11_soon 74 = .ok (.iload 7, 2) := by decide +kernel
theorem dX11_soon_76 : decode cX11_soon 76 = .ok (.istore 4, 2) := by decide +kernel
theorem dX11_soon_78 : decode cX11_soon 78 = .ok (.iload 6, 2) := by decide +kernel
theorem dX11_soon_80 : decode cX11_soon 80 = .ok (.istore_n 3, 1) := by decide +kernel
theorem dX11_soon_81 : decode cX11_soon 81 = .ok (.iinc 6 1, 3) := by decide +kernel
theorem dX11_soon_84 : decode cX11_soon 84 = .ok (.goto (-42), 3) := by decide +kernel
theorem dX11_soon_87 : decode cX11_soon 87 = .ok (.iload_n 2, 1) := by decide +kernel
theorem dX11_soon_88 : decode cX11_soon 88 = .ok (.ifCond .ne 7, 3) := by decide +kernel
theorem dX11_soon_91 : decode cX11_soon 91 = .ok (.iload_n 3, 1) := by decide +kernel
theorem dX11_soon_92 : decode cX11_soon 92 = .ok (.goto 5, 3) := by decide +kernel
theorem dX11_soon_95 : decode cX11_soon 95 = .ok (.iload 4, 2) := by decide +kernel
theorem dX11_soon_97 : decode cX11_soon 97 = .ok (.ireturn, 1) := by decide +kernel
theorem dX11_tells_0 : decode cX11_tells 0 = .ok (.aload_n 0, 1) := by decide +kernel
theorem dX11_tells_1 : decode cX11_tells 1 = .ok (.getfield 19, 3) := by decide +kernel
theorem dX11_tells_4 : decode cX11_tells 4 = .ok (.iload_n 1, 1) := by decide +kernel
theorem dX11_tells_5 : decode cX11_tells 5 = .ok (.invokevirtual 122, 3) := by decide +kernel
theorem dX11_tells_8 : decode cX11_tells 8 = .ok (.ifCond .eq 15, 3) := by decide +kernel
theorem dX11_tells_11 : decode cX11_tells 11 = .ok (.aload_n 0, 1) := by decide +kernel
theorem dX11_tells_12 : decode cX11_tells 12 = .ok (.getfield 19, 3) := by decide +kernel
theorem dX11_tells_15 : decode cX11_tells 15 = .ok (.getfield 156, 3) := by decide +kernel
theorem dX11_tells_18 : decode cX11_tells 18 = .ok (.iload_n 1, 1) := by decide +kernel
theorem dX11_tells_19 : decode cX11_tells 19 = .ok (.iaload, 1) := by decide +kernel
theorem dX11_tells_20 : decode cX11_tells 20 = .ok (.goto 5, 3) := by decide +kernel
theorem dX11_tells_23 : decode cX11_tells 23 = .ok (.bipush (-2), 2) := by decide +kernel
theorem dX11_tells_25 : decode cX11_tells 25 = .ok (.ireturn, 1) := by decide +kernel
theorem dX11_thinks_0 : decode cX11_thinks 0 = .ok (.aload_n 0, 1) := by decide +kernel
theorem dX11_thinks_1 : decode cX11_thinks 1 = .ok (.getfield 19, 3) := by decide +kernel
theorem dX11_thinks_4 : decode cX11_thinks 4 = .ok (.iload_n 1, 1) := by decide +kernel
theorem dX11_thinks_5 : decode cX11_thinks 5 = .ok (.invokevirtual 122, 3) := by decide +kernel
theorem dX11_thinks_8 : decode cX11_thinks 8 = .ok (.ifCond .ne 6, 3) := by decide +kernel
theorem dX11_thinks_11 : decode cX11_thinks 11 = .ok (.bipush (-2), 2) := by decide +kernel
theorem dX11_thinks_13 : decode cX11_thinks 13 = .ok (.ireturn, 1) := by decide +kernel
theorem dX11_thinks_14 : decode cX11_thinks 14 = .ok (.iload_n 2, 1) := by decide +kernel
theorem dX11_thinks_15 : decode cX11_thinks 15 = .ok (.iconst (-1), 1) := by decide +kernel
theorem dX11_thinks_16 : decode cX11_thinks 16 = .ok (.if_icmp .ne 13, 3) := by decide +kernel
theorem dX11_thinks_19 : decode cX11_thinks 19 = .ok (.aload_n 0, 1) := by decide +kernel
theorem dX11_thinks_20 : decode cX11_thinks 20 = .ok (.getfield 19, 3) := by decide +kernel
theorem dX11_thinks_23 : decode cX11_thinks 23 = .ok (.getfield 125, 3) := by decide +kernel
theorem dX11_thinks_26 : decode cX11_thinks 26 = .ok (.iload_n 1, 1) := by decide +kernel
theorem dX11_thinks_27 : decode cX11_thinks 27 = .ok (.iaload, 1) := by decide +kernel
theorem dX11_thinks_28 : decode cX11_thinks 28 = .ok (.ireturn, 1) := by decide +kernel
theorem dX11_thinks_29 : decode cX11_thinks 29 = .ok (.aload_n 0, 1) := by decide +kernel
theorem dX11_thinks_30 : decode cX11_thinks 30 = .ok (.getfield 19, 3) := by decide +kernel
theorem dX11_thinks_33 : decode cX11_thinks 33 = .ok (.iload_n 2, 1) := by decide +kernel
theorem dX11_thinks_34 : decode cX11_thinks 34 = .ok (.invokevirtual 114, 3) := by decide +kernel
theorem dX11_thinks_37 : decode cX11_thinks 37 = .ok (.ifCond .eq 15, 3) := by decide +kernel
theorem dX11_thinks_40 : decode cX11_thinks 40 = .ok (.aload_n 0, 1) := by decide +kernel
theorem dX11_thinks_41 : decode cX11_thinks 41 = .ok (.getfield 19, 3) := by decide +kernel
theorem dX11_thinks_44 : decode cX11_thinks 44 = .ok (.iload_n 1, 1) := by decide +kernel
theorem dX11_thinks_45 : decode cX11_thinks 45 = .ok (.iload_n 2, 1) := by decide +kernel
theorem dX11_thinks_46 : decode cX11_thinks 46 = .ok (.invokevirtual 128, 3) := by decide +kernel
theorem dX11_thinks_49 : decode cX11_thinks 49 = .ok (.goto 5, 3) := by decide +kernel
theorem dX11_thinks_52 : decode cX11_thinks 52 = .ok (.bipush (-2), 2) := by decide +kernel
theorem dX11_thinks_54 : decode cX11_thinks 54 = .ok (.ireturn, 1) := by decide +kernel
theorem dX11_unsaid_0 : decode cX11_unsaid 0 = .ok (.aload_n 0, 1) := by decide +kernel
theorem dX11_unsaid_1 : decode cX11_unsaid 1 = .ok (.getfield 19, 3) := by decide +kernel
theorem dX11_unsaid_4 : decode cX11_unsaid 4 = .ok (.invokevirtual 245, 3) := by decide +kernel
theorem dX11_unsaid_7 : decode cX11_unsaid 7 = .ok (.ifCond .ne 6, 3) := by decide +kernel
theorem dX11_unsaid_10 : decode cX11_unsaid 10 = .ok (.bipush (-2), 2) := by decide +kernel
theorem dX11_unsaid_12 : decode cX11_unsaid 12 = .ok (.ireturn, 1) := by decide +kernel
theorem dX11_unsaid_13 : decode cX11_unsaid 13 = .ok (.iconst 0, 1) := by decide +kernel
theorem dX11_unsaid_14 : decode cX11_unsaid 14 = .ok (.istore_n 1, 1) := by decide +kernel
theorem dX11_unsaid_15 : decode cX11_unsaid 15 = .ok (.iconst 0, 1) := by decide +kernel
theorem dX11_unsaid_16 : decode cX11_unsaid 16 = .ok (.istore_n 2, 1) := by decide +kernel
theorem dX11_unsaid_17 : decode cX11_unsaid 17 = .ok (.iload_n 2, 1) := by decide +kernel
theorem dX11_unsaid_18 : decode cX11_unsaid 18 = .ok (.aload_n 0, 1) := by decide +kernel
theorem dX11_unsaid_19 : decode cX11_unsaid 19 = .ok (.getfield 19, 3) := by decide +kernel
theorem dX11_unsaid_22 : decode cX11_unsaid 22 = .ok (.getfield 264, 3) := by decide +kernel
theorem dX11_unsaid_25 : decode cX11_unsaid 25 = .ok (.if_icmp .ge 29, 3) := by decide +kernel
theorem dX11_unsaid_28 : decode cX11_unsaid 28 = .ok (.aload_n 0, 1) := by decide +kernel
theorem dX11_unsaid_29 : decode cX11_unsaid 29 = .ok (.getfield 19, 3) := by decide +kernel
theorem dX11_unsaid_32 : decode cX11_unsaid 32 = .ok (.iload_n 2, 1) := by decide +kernel
theorem dX11_unsaid_33 : decode cX11_unsaid 33 = .ok (.invokevirtual 267, 3) := by decide +kernel
theorem dX11_unsaid_36 : decode cX11_unsaid 36 = .ok (.iconst 1, 1) := by decide +kernel
theorem dX11_unsaid_37 : decode cX11_unsaid 37 = .ok (.iload_n 2, 1) := by decide +kernel
theorem dX11_unsaid_38 : decode cX11_unsaid 38 = .ok (.ishl, 1) := by decide +kernel
theorem dX11_unsaid_39 : decode cX11_unsaid 39 = .ok (.if_icmp .eq 9, 3) := by decide +kernel
theorem dX11_unsaid_42 : decode cX11_unsaid 42 = .ok (.iload_n 1, 1) := by decide +kernel
theorem dX11_unsaid_43 : decode cX11_unsaid 43 = .ok (.iconst 1, 1) := by decide +kernel
theorem dX11_unsaid_44 : decode cX11_unsaid 44 = .ok (.iload_n 2, 1) := by decide +kernel
theorem dX11_unsaid_45 : decode cX11_unsaid 45 = .ok (.ishl, 1) := by decide +kernel
theorem dX11_unsaid_46 : decode cX11_unsaid 46 = .ok (.ior, 1) := by decide +kernel
theorem dX11_unsaid_47 : decode cX11_unsaid 47 = .ok (.istore_n 1, 1) := by decide +kernel
theorem dX11_unsaid_48 : decode cX11_unsaid 48 = .ok (.iinc 2 1, 3) := by decide +kernel
theorem dX11_unsaid_51 : decode cX11_unsaid 51 = .ok (.goto (-34), 3) := by decide +kernel
theorem dX11_unsaid_54 : decode cX11_unsaid 54 = .ok (.iload_n 1, 1) := by decide +kernel
theorem dX11_unsaid_55 : decode cX11_unsaid 55 = .ok (.ireturn, 1) := by decide +kernel
theorem dX11_whom_0 : decode cX11_whom 0 = .ok (.aload_n 0, 1) := by decide +kernel
theorem dX11_whom_1 : decode cX11_whom 1 = .ok (.getfield 19, 3) := by decide +kernel
theorem dX11_whom_4 : decode cX11_whom 4 = .ok (.invokevirtual 245, 3) := by decide +kernel
theorem dX11_whom_7 : decode cX11_whom 7 = .ok (.ifCond .eq 16, 3) := by decide +kernel
theorem dX11_whom_10 : decode cX11_whom 10 = .ok (.aload_n 0, 1) := by decide +kernel
theorem dX11_whom_11 : decode cX11_whom 11 = .ok (.getfield 19, 3) := by decide +kernel
theorem dX11_whom_14 : decode cX11_whom 14 = .ok (.invokevirtual 339, 3) := by decide +kernel
theorem dX11_whom_17 : decode cX11_whom 17 = .ok (.invokestatic 342, 3) := by decide +kernel
theorem dX11_whom_20 : decode cX11_whom 20 = .ok (.goto 5, 3) := by decide +kernel
theorem dX11_whom_23 : decode cX11_whom 23 = .ok (.bipush (-2), 2) := by decide +kernel
theorem dX11_whom_25 : decode cX11_whom 25 = .ok (.ireturn, 1) := by decide +kernel
theorem dX11_word_0 : decode cX11_word 0 = .ok (.aload_n 0, 1) := by decide +kernel
theorem dX11_word_1 : decode cX11_word 1 = .ok (.getfield 19, 3) := by decide +kernel
theorem dX11_word_4 : decode cX11_word 4 = .ok (.iload_n 1, 1) := by decide +kernel
theorem dX11_word_5 : decode cX11_word 5 = .ok (.invokevirtual 132, 3) := by decide +kernel
theorem dX11_word_8 : decode cX11_word 8 = .ok (.ifCond .ne 6, 3) := by decide +kernel
theorem dX11_word_11 : decode cX11_word 11 = .ok (.bipush (-2), 2) := by decide +kernel
theorem dX11_word_13 : decode cX11_word 13 = .ok (.ireturn, 1) := by decide +kernel
theorem dX11_word_14 : decode cX11_word 14 = .ok (.iload_n 2, 1) := by decide +kernel
theorem dX11_word_15 : decode cX11_word 15 = .ok (.tableswitch 62 0 2 #[25, 35, 45], 25) := by decide +kernel
theorem dX11_word_40 : decode cX11_word 40 = .ok (.aload_n 0, 1) := by decide +kernel
theorem dX11_word_41 : decode cX11_word 41 = .ok (.getfield 19, 3) := by decide +kernel
theorem dX11_word_44 : decode cX11_word 44 = .ok (.getfield 135, 3) := by decide +kernel
theorem dX11_word_47 : decode cX11_word 47 = .ok (.iload_n 1, 1) := by decide +kernel
theorem dX11_word_48 : decode cX11_word 48 = .ok (.iaload, 1) := by decide +kernel
theorem dX11_word_49 : decode cX11_word 49 = .ok (.ireturn, 1) := by decide +kernel
theorem dX11_word_50 : decode cX11_word 50 = .ok (.aload_n 0, 1) := by decide +kernel
theorem dX11_word_51 : decode cX11_word 51 = .ok (.getfield 19, 3) := by decide +kernel
theorem dX11_word_54 : decode cX11_word 54 = .ok (.getfield 138, 3) := by decide +kernel
theorem dX11_word_57 : decode cX11_word 57 = .ok (.iload_n 1, 1) := by decide +kernel
theorem dX11_word_58 : decode cX11_word 58 = .ok (.iaload, 1) := by decide +kernel
theorem dX11_word_59 : decode cX11_word 59 = .ok (.ireturn, 1) := by decide +kernel
theorem dX11_word_60 : decode cX11_word 60 = .ok (.aload_n 0, 1) := by decide +kernel
theorem dX11_word_61 : decode cX11_word 61 = .ok (.getfield 19, 3) := by decide +kernel
theorem dX11_word_64 : decode cX11_word 64 = .ok (.iload_n 1, 1) := by decide +kernel
theorem dX11_word_65 : decode cX11_word 65 = .ok (.invokevirtual 141, 3) := by decide +kernel
theorem dX11_word_68 : decode cX11_word 68 = .ok (.ifCond .eq 7, 3) := by decide +kernel
theorem dX11_word_71 : decode cX11_word 71 = .ok (.iconst 1, 1) := by decide +kernel
theorem dX11_word_72 : decode cX11_word 72 = .ok (.goto 4, 3) := by decide +kernel
theorem dX11_word_75 : decode cX11_word 75 = .ok (.iconst 0, 1) := by decide +kernel
theorem dX11_word_76 : decode cX11_word 76 = .ok (.ireturn, 1) := by decide +kernel
theorem dX11_word_77 : decode cX11_word 77 = .ok (.bipush (-2), 2) := by decide +kernel
theorem dX11_word_79 : decode cX11_word 79 = .ok (.ireturn, 1) := by decide +kernel
