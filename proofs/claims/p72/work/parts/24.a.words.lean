theorem b_461 : Cond.fieldLink RX11 47 "GentleLetters" "mind" "LGentleLetters$Mind;" ∈ BIG := bi (tin_2 _ (List.mem_of_getElem? (i := 163) rfl)) rfl
theorem b_462 : Cond.methodLinkNest RX11 442 yX4_study RX11 ∈ nests := ne (tin_4 _ (List.mem_of_getElem? (i := 133) rfl)) rfl
theorem b_463 : Cond.fieldLink RX11 54 "GentleLetters" "reach" "LGentleLetters$Reach;" ∈ BIG := bi (tin_2 _ (List.mem_of_getElem? (i := 164) rfl)) rfl
theorem b_464 : Cond.methodLinkNest RX11 251 yX6_grow RX11 ∈ nests := ne (tin_4 _ (List.mem_of_getElem? (i := 175) rfl)) rfl
theorem b_465 : Cond.fieldLink RX11 61 "GentleLetters" "planner" "LGentleLetters$Planner;" ∈ BIG := bi (tin_2 _ (List.mem_of_getElem? (i := 165) rfl)) rfl
theorem b_466 : Cond.methodLinkNest RX11 449 yX5_solve RX11 ∈ nests := ne (tin_4 _ (List.mem_of_getElem? (i := 186) rfl)) rfl
theorem b_467 : Cond.fieldLinkNest RX11 453 "GentleLetters$Planner" "cost" "I" RX11 ∈ nests := ne (tin_2 _ (List.mem_of_getElem? (i := 76) rfl)) rfl
theorem b_468 : Cond.methodLinkNest RX11 290 yX0_hasDay RX11 ∈ nests := ne (tin_4 _ (List.mem_of_getElem? (i := 229) rfl)) rfl
theorem b_469 : Cond.methodLink RX11 226 yX11_leastCost ∈ BIG := bi (tin_4 _ (List.mem_of_getElem? (i := 170) rfl)) rfl
theorem b_470 : Cond.fieldLinkNest RX11 233 "GentleLetters$Planner" "firstRow" "[I" RX11 ∈ nests := ne (tin_2 _ (List.mem_of_getElem? (i := 74) rfl)) rfl
theorem b_471 : Cond.methodLink RX11 241 yX11_wordOfBest ∈ BIG := bi (tin_4 _ (List.mem_of_getElem? (i := 225) rfl)) rfl
theorem b_472 : Cond.methodLink RX11 236 yJ9_max_7cf53 ∈ BIG := bi (tin_4 _ (List.mem_of_getElem? (i := 216) rfl)) rfl
theorem b_473 : Cond.fieldLinkNest RX11 270 "GentleLetters$Desk" "hearers" "I" RX11 ∈ nests := ne (tin_1 _ (List.mem_of_getElem? (i := 121) rfl)) rfl
theorem b_474 : Cond.methodLinkNest RX11 273 yX5_wordsUsed RX11 ∈ nests := ne (tin_5 _ (List.mem_of_getElem? (i := 60) rfl)) rfl
theorem b_475 : Cond.methodLinkNest RX11 276 yX5_costWithDays RX11 ∈ nests := ne (tin_5 _ (List.mem_of_getElem? (i := 68) rfl)) rfl
theorem b_476 : Cond.fieldLinkNest RX11 255 "GentleLetters$Reach" "distances" "[I" RX11 ∈ nests := ne (tin_2 _ (List.mem_of_getElem? (i := 55) rfl)) rfl
theorem b_477 : Cond.fieldLink RX11 68 "GentleLetters" "risks" "LGentleLetters$Risks;" ∈ BIG := bi (tin_2 _ (List.mem_of_getElem? (i := 166) rfl)) rfl
theorem b_478 : Cond.methodLinkNest RX11 454 yX7_weigh RX11 ∈ nests := ne (tin_5 _ (List.mem_of_getElem? (i := 89) rfl)) rfl
theorem b_479 : Cond.methodLink RX11 283 yX11_weighRisks ∈ BIG := bi (tin_5 _ (List.mem_of_getElem? (i := 85) rfl)) rfl
theorem b_480 : Cond.fieldLinkNest RX11 287 "GentleLetters$Risks" "cost" "I" RX11 ∈ nests := ne (tin_2 _ (List.mem_of_getElem? (i := 99) rfl)) rfl
theorem b_481 : Cond.fieldLinkNest RX11 293 "GentleLetters$Risks" "word" "I" RX11 ∈ nests := ne (tin_2 _ (List.mem_of_getElem? (i := 101) rfl)) rfl
theorem b_482 : Cond.fieldLink RX11 75 "GentleLetters" "letters" "LGentleLetters$Letters;" ∈ BIG := bi (tin_2 _ (List.mem_of_getElem? (i := 167) rfl)) rfl
theorem b_483 : Cond.methodLinkNest RX11 324 yX2_share RX11 ∈ nests := ne (tin_5 _ (List.mem_of_getElem? (i := 169) rfl)) rfl
theorem b_484 : Cond.fieldLinkNest RX11 327 "GentleLetters$Letters" "least" "I" RX11 ∈ nests := ne (tin_2 _ (List.mem_of_getElem? (i := 122) rfl)) rfl
theorem b_485 : Cond.fieldLinkNest RX11 330 "GentleLetters$Letters" "bestDays" "[I" RX11 ∈ nests := ne (tin_2 _ (List.mem_of_getElem? (i := 119) rfl)) rfl
theorem b_486 : Cond.fieldLinkNest RX11 222 "GentleLetters$Week" "size" "I" RX11 ∈ nests := ne (tin_2 _ (List.mem_of_getElem? (i := 4) rfl)) rfl
theorem b_487 : Cond.methodLinkNest RX11 445 yX10_orderSoftly RX11 ∈ nests := ne (tin_4 _ (List.mem_of_getElem? (i := 139) rfl)) rfl
theorem b_488 : Cond.methodLink RX11 216 yX11_orderWeek ∈ BIG := bi (tin_4 _ (List.mem_of_getElem? (i := 129) rfl)) rfl
theorem b_489 : Cond.fieldLinkNest RX11 219 "GentleLetters$Week" "leastOrdered" "I" RX11 ∈ nests := ne (tin_2 _ (List.mem_of_getElem? (i := 6) rfl)) rfl
theorem b_490 : Cond.code yX11_leastCost cX11_leastCost 4 (some .int) ∈ BIG := bi (tin_4 _ (List.mem_of_getElem? (i := 173) rfl)) rfl
theorem b_491 : Cond.instanceMethod yX11_leastCost ∈ BIG := bi (tin_4 _ (List.mem_of_getElem? (i := 172) rfl)) rfl
theorem b_492 : Cond.selects RX11 yX11_leastCost yX11_leastCost ∈ BIG := bi (sin_4 _ (List.mem_map.mpr ⟨(yX11_leastCost, 11), List.mem_of_getElem? (i := 13) rfl, rfl⟩)) rfl
theorem b_493 : Cond.code yX11_orderWeek cX11_orderWeek 4 (some .int) ∈ BIG := bi (tin_4 _ (List.mem_of_getElem? (i := 132) rfl)) rfl
theorem b_494 : Cond.instanceMethod yX11_orderWeek ∈ BIG := bi (tin_4 _ (List.mem_of_getElem? (i := 131) rfl)) rfl
theorem b_495 : Cond.selects RX11 yX11_orderWeek yX11_orderWeek ∈ BIG := bi (sin_4 _ (List.mem_map.mpr ⟨(yX11_orderWeek, 11), List.mem_of_getElem? (i := 6) rfl, rfl⟩)) rfl
theorem b_496 : Cond.code yX11_weighRisks cX11_weighRisks 4 none ∈ BIG := bi (tin_5 _ (List.mem_of_getElem? (i := 88) rfl)) rfl
theorem b_497 : Cond.instanceMethod yX11_weighRisks ∈ BIG := bi (tin_5 _ (List.mem_of_getElem? (i := 87) rfl)) rfl
theorem b_498 : Cond.selects RX11 yX11_weighRisks yX11_weighRisks ∈ BIG := bi (sin_5 _ (List.mem_map.mpr ⟨(yX11_weighRisks, 11), List.mem_of_getElem? (i := 10) rfl, rfl⟩)) rfl
theorem b_499 : Cond.code yX11_wordOfBest cX11_wordOfBest 5 (some .int) ∈ BIG := bi (tin_4 _ (List.mem_of_getElem? (i := 228) rfl)) rfl
theorem b_500 : Cond.instanceMethod yX11_wordOfBest ∈ BIG := bi (tin_4 _ (List.mem_of_getElem? (i := 227) rfl)) rfl
theorem b_501 : Cond.selects RX11 yX11_wordOfBest yX11_wordOfBest ∈ BIG := bi (sin_5 _ (List.mem_map.mpr ⟨(yX11_wordOfBest, 11), List.mem_of_getElem? (i := 5) rfl, rfl⟩)) rfl
theorem b_502 : Cond.code yX0_hasDay cX0_hasDay 2 (some .boolean) ∈ BIG := bi (tin_4 _ (List.mem_of_getElem? (i := 232) rfl)) rfl
theorem b_503 : Cond.instanceMethod yX0_hasDay ∈ BIG := bi (tin_4 _ (List.mem_of_getElem? (i := 231) rfl)) rfl
theorem b_504 : Cond.selects RX0 yX0_hasDay yX0_hasDay ∈ BIG := bi (sin_5 _ (List.mem_map.mpr ⟨(yX0_hasDay, 20), List.mem_of_getElem? (i := 6) rfl, rfl⟩)) rfl
theorem b_505 : Cond.code yX2_share cX2_share 7 none ∈ BIG := bi (tin_5 _ (List.mem_of_getElem? (i := 172) rfl)) rfl
theorem b_506 : Cond.instanceMethod yX2_share ∈ BIG := bi (tin_5 _ (List.mem_of_getElem? (i := 171) rfl)) rfl
theorem b_507 : Cond.selects RX2 yX2_share yX2_share ∈ BIG := bi (sin_6 _ (List.mem_map.mpr ⟨(yX2_share, 4), List.mem_of_getElem? (i := 4) rfl, rfl⟩)) rfl
theorem b_508 : Cond.code yX4_study cX4_study 4 none ∈ BIG := bi (tin_4 _ (List.mem_of_getElem? (i := 136) rfl)) rfl
theorem b_509 : Cond.instanceMethod yX4_study ∈ BIG := bi (tin_4 _ (List.mem_of_getElem? (i := 135) rfl)) rfl
theorem b_510 : Cond.selects RX4 yX4_study yX4_study ∈ BIG := bi (sin_4 _ (List.mem_map.mpr ⟨(yX4_study, 1), List.mem_of_getElem? (i := 7) rfl, rfl⟩)) rfl
theorem b_511 : Cond.code yX5_solve cX5_solve 9 none ∈ BIG := bi (tin_4 _ (List.mem_of_getElem? (i := 189) rfl)) rfl
theorem b_512 : Cond.instanceMethod yX5_solve ∈ BIG := bi (tin_4 _ (List.mem_of_getElem? (i := 188) rfl)) rfl
theorem b_513 : Cond.selects RX5 yX5_solve yX5_solve ∈ BIG := bi (sin_5 _ (List.mem_map.mpr ⟨(yX5_solve, 5), List.mem_of_getElem? (i := 0) rfl, rfl⟩)) rfl
theorem b_514 : Cond.code yX5_wordsUsed cX5_wordsUsed 4 (some .int) ∈ BIG := bi (tin_5 _ (List.mem_of_getElem? (i := 63) rfl)) rfl
theorem b_515 : Cond.instanceMethod yX5_wordsUsed ∈ BIG := bi (tin_5 _ (List.mem_of_getElem? (i := 62) rfl)) rfl
theorem b_516 : Cond.selects RX5 yX5_wordsUsed yX5_wordsUsed ∈ BIG := bi (sin_5 _ (List.mem_map.mpr ⟨(yX5_wordsUsed, 5), List.mem_of_getElem? (i := 9) rfl, rfl⟩)) rfl
theorem b_517 : Cond.code yX6_grow cX6_grow 6 none ∈ BIG := bi (tin_4 _ (List.mem_of_getElem? (i := 178) rfl)) rfl
theorem b_518 : Cond.instanceMethod yX6_grow ∈ BIG := bi (tin_4 _ (List.mem_of_getElem? (i := 177) rfl)) rfl
theorem b_519 : Cond.selects RX6 yX6_grow yX6_grow ∈ BIG := bi (sin_4 _ (List.mem_map.mpr ⟨(yX6_grow, 3), List.mem_of_getElem? (i := 14) rfl, rfl⟩)) rfl
theorem b_520 : Cond.code yX7_weigh cX7_weigh 10 none ∈ BIG := bi (tin_5 _ (List.mem_of_getElem? (i := 92) rfl)) rfl
theorem b_521 : Cond.instanceMethod yX7_weigh ∈ BIG := bi (tin_5 _ (List.mem_of_getElem? (i := 91) rfl)) rfl
theorem b_522 : Cond.selects RX7 yX7_weigh yX7_weigh ∈ BIG := bi (sin_5 _ (List.mem_map.mpr ⟨(yX7_weigh, 4), List.mem_of_getElem? (i := 11) rfl, rfl⟩)) rfl
theorem b_523 : Cond.code yX10_orderSoftly cX10_orderSoftly 6 none ∈ BIG := bi (tin_4 _ (List.mem_of_getElem? (i := 142) rfl)) rfl
theorem b_524 : Cond.instanceMethod yX10_orderSoftly ∈ BIG := bi (tin_4 _ (List.mem_of_getElem? (i := 141) rfl)) rfl
theorem b_525 : Cond.selects RX10 yX10_orderSoftly yX10_orderSoftly ∈ BIG := bi (sin_4 _ (List.mem_map.mpr ⟨(yX10_orderSoftly, 10), List.mem_of_getElem? (i := 8) rfl, rfl⟩)) rfl
theorem m_yX11_leastCost : MV yX11_leastCost cX11_leastCost 4 (some .int) 3 := ⟨b_490, b_491, b_492, b_332, by decide +kernel⟩
theorem m_yX11_orderWeek : MV yX11_orderWeek cX11_orderWeek 4 (some .int) 2 := ⟨b_493, b_494, b_495, b_332, by decide +kernel⟩
theorem m_yX11_weighRisks : MV yX11_weighRisks cX11_weighRisks 4 none 3 := ⟨b_496, b_497, b_498, b_332, by decide +kernel⟩
theorem m_yX11_wordOfBest : MV yX11_wordOfBest cX11_wordOfBest 5 (some .int) 4 := ⟨b_499, b_500, b_501, b_332, by decide +kernel⟩
theorem m_yX0_hasDay : MV yX0_hasDay cX0_hasDay 2 (some .boolean) 1 := ⟨b_502, b_503, b_504, b_21, by decide +kernel⟩
theorem m_yX2_share : MV yX2_share cX2_share 7 none 2 := ⟨b_505, b_506, b_507, b_236, by decide +kernel⟩
theorem m_yX4_study : MV yX4_study cX4_study 4 none 2 := ⟨b_508, b_509, b_510, b_94, by decide +kernel⟩
theorem m_yX5_solve : MV yX5_solve cX5_solve 9 none 5 := ⟨b_511, b_512, b_513, b_161, by decide +kernel⟩
theorem m_yX5_wordsUsed : MV yX5_wordsUsed cX5_wordsUsed 4 (some .int) 1 := ⟨b_514, b_515, b_516, b_161, by decide +kernel⟩
theorem m_yX6_grow : MV yX6_grow cX6_grow 6 none 2 := ⟨b_517, b_518, b_519, b_174, by decide +kernel⟩
theorem m_yX7_weigh : MV yX7_weigh cX7_weigh 10 none 5 := ⟨b_520, b_521, b_522, b_178, by decide +kernel⟩
theorem m_yX10_orderSoftly : MV yX10_orderSoftly cX10_orderSoftly 6 none 2 := ⟨b_523, b_524, b_525, b_243, by decide +kernel⟩
theorem dX11_all_0 : decode cX11_all 0 = .ok (.aload_n 0, 1) := by decide +kernel
theorem dX11_all_1 : decode cX11_all 1 = .ok (.getfield 19, 3) := by decide +kernel
theorem dX11_all_4 : decode cX11_all 4 = .ok (.invokevirtual 245, 3) := by decide +kernel
theorem dX11_all_7 : decode cX11_all 7 = .ok (.ifCond .ne 6, 3) := by decide +kernel
theorem dX11_all_10 : decode cX11_all 10 = .ok (.bipush (-2), 2) := by decide +kernel
theorem dX11_all_12 : decode cX11_all 12 = .ok (.ireturn, 1) := by decide +kernel
theorem dX11_all_13 : decode cX11_all 13 = .ok (.aload_n 0, 1) := by decide +kernel
theorem dX11_all_14 : decode cX11_all 14 = .ok (.getfield 75, 3) := by decide +kernel
theorem dX11_all_17 : decode cX11_all 17 = .ok (.aload_n 0, 1) := by decide +kernel
theorem dX11_all_18 : decode cX11_all 18 = .ok (.getfield 19, 3) := by decide +kernel
theorem dX11_all_21 : decode cX11_all 21 = .ok (.iconst 1, 1) := by decide +kernel
theorem dX11_all_22 : decode cX11_all 22 = .ok (.invokevirtual 324, 3) := by decide +kernel
theorem dX11_all_25 : decode cX11_all 25 = .ok (.aload_n 0, 1) := by decide +kernel
theorem dX11_all_26 : decode cX11_all 26 = .ok (.getfield 75, 3) := by decide +kernel
theorem dX11_all_29 : decode cX11_all 29 = .ok (.getfield 327, 3) := by decide +kernel
theorem dX11_all_32 : decode cX11_all 32 = .ok (.ireturn, 1) := by decide +kernel
theorem dX11_enough_0 : decode cX11_enough 0 = .ok (.aload_n 0, 1) := by decide +kernel
theorem dX11_enough_1 : decode cX11_enough 1 = .ok (.getfield 19, 3) := by decide +kernel
theorem dX11_enough_4 : decode cX11_enough 4 = .ok (.iload_n 1, 1) := by decide +kernel
theorem dX11_enough_5 : decode cX11_enough 5 = .ok (.invokevirtual 122, 3) := by decide +kernel
theorem dX11_enough_8 : decode cX11_enough 8 = .ok (.ifCond .ne 6, 3) := by decide +kernel
theorem dX11_enough_11 : decode cX11_enough 11 = .ok (.bipush (-2), 2) := by decide +kernel
theorem dX11_enough_13 : decode cX11_enough 13 = .ok (.ireturn, 1) := by decide +kernel
theorem dX11_enough_14 : decode cX11_enough 14 = .ok (.aload_n 0, 1) := by decide +kernel
theorem dX11_enough_15 : decode cX11_enough 15 = .ok (.iload_n 1, 1) := by decide +kernel
theorem dX11_enough_16 : decode cX11_enough 16 = .ok (.iconst 0, 1) := by decide +kernel
theorem dX11_enough_17 : decode cX11_enough 17 = .ok (.iconst 0, 1) := by decide +kernel
theorem dX11_enough_18 : decode cX11_enough 18 = .ok (.invokevirtual 226, 3) := by decide +kernel
theorem dX11_enough_21 : decode cX11_enough 21 = .ok (.istore_n 2, 1) := by decide +kernel
theorem dX11_enough_22 : decode cX11_enough 22 = .ok (.iload_n 2, 1) := by decide +kernel
theorem dX11_enough_23 : decode cX11_enough 23 = .ok (.iconst (-1), 1) := by decide +kernel
theorem dX11_enough_24 : decode cX11_enough 24 = .ok (.if_icmp .ne 5, 3) := by decide +kernel
theorem dX11_enough_27 : decode cX11_enough 27 = .ok (.iconst (-1), 1) := by decide +kernel
theorem dX11_enough_28 : decode cX11_enough 28 = .ok (.ireturn, 1) := by decide +kernel
theorem dX11_enough_29 : decode cX11_enough 29 = .ok (.iconst 1, 1) := by decide +kernel
theorem dX11_enough_30 : decode cX11_enough 30 = .ok (.istore_n 3, 1) := by decide +kernel
theorem dX11_enough_31 : decode cX11_enough 31 = .ok (.iload_n 3, 1) := by decide +kernel
theorem dX11_enough_32 : decode cX11_enough 32 = .ok (.aload_n 0, 1) := by decide +kernel
theorem dX11_enough_33 : decode cX11_enough 33 = .ok (.getfield 19, 3) := by decide +kernel
theorem dX11_enough_36 : decode cX11_enough 36 = .ok (.getfield 230, 3) := by decide +kernel
theorem dX11_enough_39 : decode cX11_enough 39 = .ok (.if_icmp .ge 30, 3) := by decide +kernel
theorem dX11_enough_42 : decode cX11_enough 42 = .ok (.aload_n 0, 1) := by decide +kernel
theorem dX11_enough_43 : decode cX11_enough 43 = .ok (.getfield 61, 3) := by decide +kernel
theorem dX11_enough_46 : decode cX11_enough 46 = .ok (.iload_n 3, 1) := by decide +kernel
theorem dX11_enough_47 : decode cX11_enough 47 = .ok (.aload_n 0, 1) := by decide +kernel
theorem dX11_enough_48 : decode cX11_enough 48 = .ok (.getfield 19, 3) := by decide +kernel
theorem dX11_enough_51 : decode cX11_enough 51 = .ok (.invokevirtual 248, 3) := by decide +kernel
theorem dX11_enough_54 : decode cX11_enough 54 = .ok (.invokevirtual 276, 3) := by decide +kernel
theorem dX11_enough_57 : decode cX11_enough 57 = .ok (.iload_n 2, 1) := by decide +kernel
theorem dX11_enough_58 : decode cX11_enough 58 = .ok (.if_icmp .ne 5, 3) := by decide +kernel
theorem dX11_enough_61 : decode cX11_enough 61 = .ok (.iload_n 3, 1) := by decide +kernel
theorem dX11_enough_62 : decode cX11_enough 62 = .ok (.ireturn, 1) := by decide +kernel
theorem dX11_enough_63 : decode cX11_enough 63 = .ok (.iinc 3 1, 3) := by decide +kernel
theorem dX11_enough_66 : decode cX11_enough 66 = .ok (.goto (-35), 3) := by decide +kernel
theorem dX11_enough_69 : decode cX11_enough 69 = .ok (.aload_n 0, 1) := by decide +kernel
theorem dX11_enough_70 : decode cX11_enough 70 = .ok (.getfield 19, 3) := by decide +kernel
theorem dX11_enough_73 : decode cX11_enough 73 = .ok (.getfield 230, 3) := by decide +kernel
theorem dX11_enough_76 : decode cX11_enough 76 = .ok (.ireturn, 1) := by decide +kernel
theorem dX11_fewest_0 : decode cX11_fewest 0 = .ok (.aload_n 0, 1) := by decide +kernel
theorem dX11_fewest_1 : decode cX11_fewest 1 = .ok (.getfield 19, 3) := by decide +kernel
theorem dX11_fewest_4 : decode cX11_fewest 4 = .ok (.invokevirtual 245, 3) := by decide +kernel
theorem dX11_fewest_7 : decode cX11_fewest 7 = .ok (.ifCond .ne 6, 3) := by decide +kernel
theorem dX11_fewest_10 : decode cX11_fewest 10 = .ok (.bipush (-2), 2) := by decide +kernel
theorem dX11_fewest_12 : decode cX11_fewest 12 = .ok (.ireturn, 1) := by decide +kernel
theorem dX11_fewest_13 : decode cX11_fewest 13 = .ok (.aload_n 0, 1) := by decide +kernel
theorem dX11_fewest_14 : decode cX11_fewest 14 = .ok (.getfield 54, 3) := by decide +kernel
theorem dX11_fewest_17 : decode cX11_fewest 17 = .ok (.aload_n 0, 1) := by decide +kernel
theorem dX11_fewest_18 : decode cX11_fewest 18 = .ok (.getfield 19, 3) := by decide +kernel
theorem dX11_fewest_21 : decode cX11_fewest 21 = .ok (.aload_n 0, 1) := by decide +kernel
theorem dX11_fewest_22 : decode cX11_fewest 22 = .ok (.getfield 19, 3) := by decide +kernel
theorem dX11_fewest_25 : decode cX11_fewest 25 = .ok (.invokevirtual 248, 3) := by decide +kernel
theorem dX11_fewest_28 : decode cX11_fewest 28 = .ok (.invokevirtual 251, 3) := by decide +kernel
theorem dX11_fewest_31 : decode cX11_fewest 31 = .ok (.aload_n 0, 1) := by decide +kernel
theorem dX11_fewest_32 : decode cX11_fewest 32 = .ok (.getfield 54, 3) := by decide +kernel
theorem dX11_fewest_35 : decode cX11_fewest 35 = .ok (.getfield 255, 3) := by decide +kernel
theorem dX11_fewest_38 : decode cX11_fewest 38 = .ok (.aload_n 0, 1) := by decide +kernel
theorem dX11_fewest_39 : decode cX11_fewest 39 = .ok (.getfield 19, 3) := by decide +kernel
theorem dX11_fewest_42 : decode cX11_fewest 42 = .ok (.invokevirtual 210, 3) := by decide +kernel
theorem dX11_fewest_45 : decode cX11_fewest 45 = .ok (.iaload, 1) := by decide +kernel
theorem dX11_fewest_46 : decode cX11_fewest 46 = .ok (.istore_n 1, 1) := by decide +kernel
theorem dX11_fewest_47 : decode cX11_fewest 47 = .ok (.iload_n 1, 1) := by decide +kernel
theorem dX11_fewest_48 : decode cX11_fewest 48 = .ok (.aload_n 0, 1) := by decide +kernel
theorem dX11_fewest_49 : decode cX11_fewest 49 = .ok (.getfield 19, 3) := by decide +kernel
theorem dX11_fewest_52 : decode cX11_fewest 52 = .ok (.getfield 230, 3) := by decide +kernel
theorem dX11_fewest_55 : decode cX11_fewest 55 = .ok (.if_icmp .gt 7, 3) := by decide +kernel
theorem dX11_fewest_58 : decode cX11_fewest 58 = .ok (.iload_n 1, 1) := by decide +kernel
theorem dX11_fewest_59 : decode cX11_fewest 59 = .ok (.goto 4, 3) := by decide +kernel
theorem dX11_fewest_62 : decode cX11_fewest 62 = .ok (.iconst (-1), 1) := by decide +kernel
theorem dX11_fewest_63 : decode cX11_fewest 63 = .ok (.ireturn, 1) := by decide +kernel
theorem dX11_gentlest_0 : decode cX11_gentlest 0 = .ok (.aload_n 0, 1) := by decide +kernel
theorem dX11_gentlest_1 : decode cX11_gentlest 1 = .ok (.getfield 19, 3) := by decide +kernel
theorem dX11_gentlest_4 : decode cX11_gentlest 4 = .ok (.iload_n 1, 1) := by decide +kernel
theorem dX11_gentlest_5 : decode cX11_gentlest 5 = .ok (.invokevirtual 122, 3) := by decide +kernel
theorem dX11_gentlest_8 : decode cX11_gentlest 8 = .ok (.ifCond .eq 13, 3) := by decide +kernel
theorem dX11_gentlest_11 : decode cX11_gentlest 11 = .ok (.aload_n 0, 1) := by decide +kernel
theorem dX11_gentlest_12 : decode cX11_gentlest 12 = .ok (.iload_n 1, 1) := by decide +kernel
theorem dX11_gentlest_13 : decode cX11_gentlest 13 = .ok (.iconst 1, 1) := by decide +kernel
theorem dX11_gentlest_14 : decode cX11_gentlest 14 = .ok (.iconst 0, 1) := by decide +kernel
theorem dX11_gentlest_15 : decode cX11_gentlest 15 = .ok (.invokevirtual 226, 3) := by decide +kernel
theorem dX11_gentlest_18 : decode cX11_gentlest 18 = .ok (.goto 5, 3) := by decide +kernel
theorem dX11_gentlest_21 : decode cX11_gentlest 21 = .ok (.bipush (-2), 2) := by decide +kernel
theorem dX11_gentlest_23 : decode cX11_gentlest 23 = .ok (.ireturn, 1) := by decide +kernel
theorem dX11_gently_0 : decode cX11_gently 0 = .ok (.aload_n 0, 1) := by decide +kernel
theorem dX11_gently_1 : decode cX11_gently 1 = .ok (.iload_n 1, 1) := by decide +kernel
theorem dX11_gently_2 : decode cX11_gently 2 = .ok (.iload_n 2, 1) := by decide +kernel
theorem dX11_gently_3 : decode cX11_gently 3 = .ok (.iconst 1, 1) := by decide +kernel
theorem dX11_gently_4 : decode cX11_gently 4 = .ok (.iconst 0, 1) := by decide +kernel
theorem dX11_gently_5 : decode cX11_gently 5 = .ok (.invokevirtual 241, 3) := by decide +kernel
theorem dX11_gently_8 : decode cX11_gently 8 = .ok (.ireturn, 1) := by decide +kernel
theorem dX11_guess_0 : decode cX11_guess 0 = .ok (.aload_n 0, 1) := by decide +kernel
theorem dX11_guess_1 : decode cX11_guess 1 = .ok (.getfield 19, 3) := by decide +kernel
theorem dX11_guess_4 : decode cX11_guess 4 = .ok (.iload_n 2, 1) := by decide +kernel
theorem dX11_guess_5 : decode cX11_guess 5 = .ok (.invokevirtual 122, 3) := by decide +kernel
theorem dX11_guess_8 : decode cX11_guess 8 = .ok (.ifCond .ne 6, 3) := by decide +kernel
theorem dX11_guess_11 : decode cX11_guess 11 = .ok (.bipush (-2), 2) := by decide +kernel
theorem dX11_guess_13 : decode cX11_guess 13 = .ok (.ireturn, 1) := by decide +kernel
theorem dX11_guess_14 : decode cX11_guess 14 = .ok (.aload_n 0, 1) := by decide +kernel
theorem dX11_guess_15 : decode cX11_guess 15 = .ok (.iload_n 1, 1) := by decide +kernel
theorem dX11_guess_16 : decode cX11_guess 16 = .ok (.invokevirtual 183, 3) := by decide +kernel
theorem dX11_guess_19 : decode cX11_guess 19 = .ok (.istore_n 3, 1) := by decide +kernel
theorem dX11_guess_20 : decode cX11_guess 20 = .ok (.iload_n 3, 1) := by decide +kernel
theorem dX11_guess_21 : decode cX11_guess 21 = .ok (.ifCond .ge 5, 3) := by decide +kernel
theorem dX11_guess_24 : decode cX11_guess 24 = .ok (.iload_n 3, 1) := by decide +kernel
theorem dX11_guess_25 : decode cX11_guess 25 = .ok (.ireturn, 1) := by decide +kernel
theorem dX11_guess_26 : decode cX11_guess 26 = .ok (.aload_n 0, 1) := by decide +kernel
theorem dX11_guess_27 : decode cX11_guess 27 = .ok (.getfield 40, 3) := by decide +kernel
theorem dX11_guess_30 : decode cX11_guess 30 = .ok (.aload_n 0, 1) := by decide +kernel
theorem dX11_guess_31 : decode cX11_guess 31 = .ok (.getfield 19, 3) := by decide +kernel
theorem dX11_guess_34 : decode cX11_guess 34 = .ok (.invokevirtual 347, 3) := by decide +kernel
theorem dX11_guess_37 : decode cX11_guess 37 = .ok (.istore 4, 2) := by decide +kernel
theorem dX11_guess_39 : decode cX11_guess 39 = .ok (.iload 4, 2) := by decide +kernel
theorem dX11_guess_41 : decode cX11_guess 41 = .ok (.ifCond .ne 7, 3) := by decide +kernel
theorem dX11_guess_44 : decode cX11_guess 44 = .ok (.iconst (-1), 1) := by decide +kernel
theorem dX11_guess_45 : decode cX11_guess 45 = .ok (.goto 13, 3) := by decide +kernel
theorem dX11_guess_48 : decode cX11_guess 48 = .ok (.aload_n 0, 1) := by decide +kernel
theorem dX11_guess_49 : decode cX11_guess 49 = .ok (.getfield 19, 3) := by decide +kernel
theorem dX11_guess_52 : decode cX11_guess 52 = .ok (.iload_n 2, 1) := by decide +kernel
theorem dX11_guess_53 : decode cX11_guess 53 = .ok (.iload 4, 2) := by decide +kernel
theorem dX11_guess_55 : decode cX11_guess 55 = .ok (.invokevirtual 162, 3) := by decide +kernel
theorem dX11_guess_58 : decode cX11_guess 58 = .ok (.ireturn, 1) := by decide +kernel
theorem dX11_honest_0 : decode cX11_honest 0 = .ok (.aload_n 0, 1) := by decide +kernel
theorem dX11_honest_1 : decode cX11_honest 1 = .ok (.iload_n 1, 1) := by decide +kernel
theorem dX11_honest_2 : decode cX11_honest 2 = .ok (.iload_n 2, 1) := by decide +kernel
theorem dX11_honest_3 : decode cX11_honest 3 = .ok (.iconst 0, 1) := by decide +kernel
theorem dX11_honest_4 : decode cX11_honest 4 = .ok (.iconst 1, 1) := by decide +kernel
theorem dX11_honest_5 : decode cX11_honest 5 = .ok (.invokevirtual 241, 3) := by decide +kernel
theorem dX11_honest_8 : decode cX11_honest 8 = .ok (.ireturn, 1) := by decide +kernel
theorem dX11_hope_0 : decode cX11_hope 0 = .ok (.aload_n 0, 1) := by decide +kernel
theorem dX11_hope_1 : decode cX11_hope 1 = .ok (.getfield 19, 3) := by decide +kernel
theorem dX11_hope_4 : decode cX11_hope 4 = .ok (.iload_n 2, 1) := by decide +kernel
theorem dX11_hope_5 : decode cX11_hope 5 = .ok (.invokevirtual 122, 3) := by decide +kernel
theorem dX11_hope_8 : decode cX11_hope 8 = .ok (.ifCond .eq 25, 3) := by decide +kernel
theorem dX11_hope_11 : decode cX11_hope 11 = .ok (.aload_n 0, 1) := by decide +kernel
theorem dX11_hope_12 : decode cX11_hope 12 = .ok (.getfield 19, 3) := by decide +kernel
theorem dX11_hope_15 : decode cX11_hope 15 = .ok (.iload_n 3, 1) := by decide +kernel
theorem dX11_hope_16 : decode cX11_hope 16 = .ok (.invokevirtual 114, 3) := by decide +kernel
theorem dX11_hope_19 : decode cX11_hope 19 = .ok (.ifCond .eq 14, 3) := by decide +kernel
theorem dX11_hope_22 : decode cX11_hope 22 = .ok (.iload 4, 2) := by decide +kernel
theorem dX11_hope_24 : decode cX11_hope 24 = .ok (.ifCond .lt 9, 3) := by decide +kernel
theorem dX11_hope_27 : decode cX11_hope 27 = .ok (.iload 4, 2) := by decide +kernel
theorem dX11_hope_29 : decode cX11_hope 29 = .ok (.iconst 1, 1) := by decide +kernel
theorem dX11_hope_30 : decode cX11_hope 30 = .ok (.if_icmp .le 6, 3) := by decide +kernel
theorem dX11_hope_33 : decode cX11_hope 33 = .ok (.bipush (-2), 2) := by decide +kernel
theorem dX11_hope_35 : decode cX11_hope 35 = .ok (.ireturn, 1) := by decide +kernel
theorem dX11_hope_36 : decode cX11_hope 36 = .ok (.aload_n 0, 1) := by decide +kernel
theorem dX11_hope_37 : decode cX11_hope 37 = .ok (.iload_n 1, 1) := by decide +kernel
theorem dX11_hope_38 : decode cX11_hope 38 = .ok (.invokevirtual 183, 3) := by decide +kernel
theorem dX11_hope_41 : decode cX11_hope 41 = .ok (.istore 5, 2) := by decide +kernel
theorem dX11_hope_43 : decode cX11_hope 43 = .ok (.iload 5, 2) := by decide +kernel
theorem dX11_hope_45 : decode cX11_hope 45 = .ok (.ifCond .ge 8, 3) := by decide +kernel
theorem dX11_hope_48 : decode cX11_hope 48 = .ok (.iload 5, 2) := by decide +kernel
theorem dX11_hope_50 : decode cX11_hope 50 = .ok (.goto 25, 3) := by decide +kernel
theorem dX11_hope_53 : decode cX11_hope 53 = .ok (.aload_n 0, 1) := by decide +kernel
theorem dX11_hope_54 : decode cX11_hope 54 = .ok (.getfield 19, 3) := by decide +kernel
theorem dX11_hope_57 : decode cX11_hope 57 = .ok (.iload_n 2, 1) := by decide +kernel
theorem dX11_hope_58 : decode cX11_hope 58 = .ok (.aload_n 0, 1) := by decide +kernel
theorem dX11_hope_59 : decode cX11_hope 59 = .ok (.getfield 40, 3) := by decide +kernel
theorem dX11_hope_62 : decode cX11_hope 62 = .ok (.aload_n 0, 1) := by decide +kernel
theorem dX11_hope_63 : decode cX11_hope 63 = .ok (.getfield 19, 3) := by decide +kernel
theorem dX11_hope_66 : decode cX11_hope 66 = .ok (.invokevirtual 187, 3) := by decide +kernel
theorem dX11_hope_69 : decode cX11_hope 69 = .ok (.iload_n 3, 1) := by decide +kernel
theorem dX11_hope_70 : decode cX11_hope 70 = .ok (.iload 4, 2) := by decide +kernel
theorem dX11_hope_72 : decode cX11_hope 72 = .ok (.invokevirtual 165, 3) := by decide +kernel
theorem dX11_hope_75 : decode cX11_hope 75 = .ok (.ireturn, 1) := by decide +kernel
theorem dX11_idle_0 : decode cX11_idle 0 = .ok (.aload_n 0, 1) := by decide +kernel
theorem dX11_idle_1 : decode cX11_idle 1 = .ok (.getfield 19, 3) := by decide +kernel
theorem dX11_idle_4 : decode cX11_idle 4 = .ok (.invokevirtual 245, 3) := by decide +kernel
theorem dX11_idle_7 : decode cX11_idle 7 = .ok (.ifCond .ne 6, 3) := by decide +kernel
theorem dX11_idle_10 : decode cX11_idle 10 = .ok (.bipush (-2), 2) := by decide +kernel
theorem dX11_idle_12 : decode cX11_idle 12 = .ok (.ireturn, 1) := by decide +kernel
theorem dX11_idle_13 : decode cX11_idle 13 = .ok (.iconst 0, 1) := by decide +kernel
theorem dX11_idle_14 : decode cX11_idle 14 = .ok (.istore_n 1, 1) := by decide +kernel
theorem dX11_idle_15 : decode cX11_idle 15 = .ok (.iconst 0, 1) := by decide +kernel
theorem dX11_idle_16 : decode cX11_idle 16 = .ok (.istore_n 2, 1) := by decide +kernel
theorem dX11_idle_17 : decode cX11_idle 17 = .ok (.iload_n 2, 1) := by decide +kernel
theorem dX11_idle_18 : decode cX11_idle 18 = .ok (.aload_n 0, 1) := by decide +kernel
theorem dX11_idle_19 : decode cX11_idle 19 = .ok (.getfield 19, 3) := by decide +kernel
theorem dX11_idle_22 : decode cX11_idle 22 = .ok (.getfield 270, 3) := by decide +kernel
theorem dX11_idle_25 : decode cX11_idle 25 = .ok (.if_icmp .ge 37, 3) := by decide +kernel
theorem dX11_idle_28 : decode cX11_idle 28 = .ok (.aload_n 0, 1) := by decide +kernel
theorem dX11_idle_29 : decode cX11_idle 29 = .ok (.iload_n 2, 1) := by decide +kernel
theorem dX11_idle_30 : decode cX11_idle 30 = .ok (.iconst 0, 1) := by decide +kernel
theorem dX11_idle_31 : decode cX11_idle 31 = .ok (.iconst 0, 1) := by decide +kernel
theorem dX11_idle_32 : decode cX11_idle 32 = .ok (.invokevirtual 226, 3) := by decide +kernel
theorem dX11_idle_35 : decode cX11_idle 35 = .ok (.iconst (-1), 1) := by decide +kernel
theorem dX11_idle_36 : decode cX11_idle 36 = .ok (.if_icmp .eq 20, 3) := by decide +kernel
theorem dX11_idle_39 : decode cX11_idle 39 = .ok (.iload_n 1, 1) := by decide +kernel
theorem dX11_idle_40 : decode cX11_idle 40 = .ok (.aload_n 0, 1) := by decide +kernel
theorem dX11_idle_41 : decode cX11_idle 41 = .ok (.getfield 61, 3) := by decide +kernel
theorem dX11_idle_44 : decode cX11_idle 44 = .ok (.aload_n 0, 1) := by decide +kernel
theorem dX11_idle_45 : decode cX11_idle 45 = .ok (.getfield 19, 3) := by decide +kernel
theorem dX11_idle_48 : decode cX11_idle 48 = .ok (.getfield 230, 3) := by decide +kernel
theorem dX11_idle_51 : decode cX11_idle 51 = .ok (.invokevirtual 273, 3) := by decide +kernel
theorem dX11_idle_54 : decode cX11_idle 54 = .ok (.ior, 1) := by decide +kernel
theorem dX11_idle_55 : decode cX11_idle 55 = .ok (.istore_n 1, 1) := by decide +kernel
theorem dX11_idle_56 : decode cX11_idle 56 = .ok (.iinc 2 1, 3) := by decide +kernel
theorem dX11_idle_59 : decode cX11_idle 59 = .ok (.goto (-42), 3) := by decide +kernel
theorem dX11_idle_62 : decode cX11_idle 62 = .ok (.iconst 1, 1) := by decide +kernel
theorem dX11_idle_63 : decode cX11_idle 63 = .ok (.aload_n 0, 1) := by decide +kernel
theorem dX11_idle_64 : decode cX11_idle 64 = .ok (.getfield 19, 3) := by decide +kernel
theorem dX11_idle_67 : decode cX11_idle 67 = .ok (.getfield 180, 3) := by decide +kernel
theorem dX11_idle_70 : decode cX11_idle 70 = .ok (.ishl, 1) := by decide +kernel
theorem dX11_idle_71 : decode cX11_idle 71 = .ok (.iconst 1, 1) := by decide +kernel
theorem dX11_idle_72 : decode cX11_idle 72 = .ok (.isub, 1) := by decide +kernel
theorem dX11_idle_73 : decode cX11_idle 73 = .ok (.iload_n 1, 1) := by decide +kernel
theorem dX11_idle_74 : decode cX11_idle 74 = .ok (.iconst (-1), 1) := by decide +kernel
theorem dX11_idle_75 : decode cX11_idle 75 = .ok (.ixor, 1) := by decide +kernel
theorem dX11_idle_76 : decode cX11_idle 76 = .ok (.iand, 1) := by decide +kernel
theorem dX11_idle_77 : decode cX11_idle 77 = .ok (.ireturn, 1) := by decide +kernel
theorem dX11_joined_0 : decode cX11_joined 0 = .ok (.aload_n 0, 1) := by decide +kernel
theorem dX11_joined_1 : decode cX11_joined 1 = .ok (.getfield 19, 3) := by decide +kernel
theorem dX11_joined_4 : decode cX11_joined 4 = .ok (.invokevirtual 245, 3) := by decide +kernel
theorem dX11_joined_7 : decode cX11_joined 7 = .ok (.ifCond .eq 13, 3) := by decide +kernel
theorem dX11_joined_10 : decode cX11_joined 10 = .ok (.iload_n 1, 1) := by decide +kernel
theorem dX11_joined_11 : decode cX11_joined 11 = .ok (.iconst 1, 1) := by decide +kernel
theorem dX11_joined_12 : decode cX11_joined 12 = .ok (.if_icmp .lt 8, 3) := by decide +kernel
theorem dX11_joined_15 : decode cX11_joined 15 = .ok (.iload_n 1, 1) := by decide +kernel
theorem dX11_joined_16 : decode cX11_joined 16 = .ok (.iconst 4, 1) := by decide +kernel
theorem dX11_joined_17 : decode cX11_joined 17 = .ok (.if_icmp .le 6, 3) := by decide +kernel
theorem dX11_joined_20 : decode cX11_joined 20 = .ok (.bipush (-2), 2) := by decide +kernel
theorem dX11_joined_22 : decode cX11_joined 22 = .ok (.ireturn, 1) := by decide +kernel
theorem dX11_joined_23 : decode cX11_joined 23 = .ok (.aload_n 0, 1) := by decide +kernel
theorem dX11_joined_24 : decode cX11_joined 24 = .ok (.getfield 75, 3) := by decide +kernel
theorem dX11_joined_27 : decode cX11_joined 27 = .ok (.aload_n 0, 1) := by decide +kernel
theorem dX11_joined_28 : decode cX11_joined 28 = .ok (.getfield 19, 3) := by decide +kernel
theorem dX11_joined_31 : decode cX11_joined 31 = .ok (.iload_n 1, 1) := by decide +kernel
theorem dX11_joined_32 : decode cX11_joined 32 = .ok (.invokevirtual 324, 3) := by decide +kernel
theorem dX11_joined_35 : decode cX11_joined 35 = .ok (.aload_n 0, 1) := by decide +kernel
theorem dX11_joined_36 : decode cX11_joined 36 = .ok (.getfield 75, 3) := by decide +kernel
theorem dX11_joined_39 : decode cX11_joined 39 = .ok (.getfield 327, 3) := by decide +kernel
theorem dX11_joined_42 : decode cX11_joined 42 = .ok (.ireturn, 1) := by decide +kernel
theorem dX11_least_0 : decode cX11_least 0 = .ok (.aload_n 0, 1) := by decide +kernel
theorem dX11_least_1 : decode cX11_least 1 = .ok (.getfield 19, 3) := by decide +kernel
theorem dX11_least_4 : decode cX11_least 4 = .ok (.iload_n 1, 1) := by decide +kernel
theorem dX11_least_5 : decode cX11_least 5 = .ok (.invokevirtual 122, 3) := by decide +kernel
theorem dX11_least_8 : decode cX11_least 8 = .ok (.ifCond .eq 13, 3) := by decide +kernel
theorem dX11_least_11 : decode cX11_least 11 = .ok (.aload_n 0, 1) := by decide +kernel
theorem dX11_least_12 : decode cX11_least 12 = .ok (.iload_n 1, 1) := by decide +kernel
theorem dX11_least_13 : decode cX11_least 13 = .ok (.iconst 0, 1) := by decide +kernel
theorem dX11_least_14 : decode cX11_least 14 = .ok (.iconst 0, 1) := by decide +kernel
theorem dX11_least_15 : decode cX11_least 15 = .ok (.invokevirtual 226, 3) := by decide +kernel
theorem dX11_least_18 : decode cX11_least 18 = .ok (.goto 5, 3) := by decide +kernel
theorem dX11_least_21 : decode cX11_least 21 = .ok (.bipush (-2), 2) := by decide +kernel
theorem dX11_least_23 : decode cX11_least 23 = .ok (.ireturn, 1) := by decide +kernel
theorem dX11_leastCost_0 : decode cX11_leastCost 0 = .ok (.aload_n 0, 1) := by decide +kernel
theorem dX11_leastCost_1 : decode cX11_leastCost 1 = .ok (.getfield 47, 3) := by decide +kernel
theorem dX11_leastCost_4 : decode cX11_leastCost 4 = .ok (.aload_n 0, 1) := by decide +kernel
theorem dX11_leastCost_5 : decode cX11_leastCost 5 = .ok (.getfield 19, 3) := by decide +kernel
theorem dX11_leastCost_8 : decode cX11_leastCost 8 = .ok (.iload_n 1, 1) := by decide +kernel
theorem dX11_leastCost_9 : decode cX11_leastCost 9 = .ok (.invokevirtual 442, 3) := by decide +kernel
theorem dX11_leastCost_12 : decode cX11_leastCost 12 = .ok (.aload_n 0, 1) := by decide +kernel
theorem dX11_leastCost_13 : decode cX11_leastCost 13 = .ok (.getfield 54, 3) := by decide +kernel
theorem dX11_leastCost_16 : decode cX11_leastCost 16 = .ok (.aload_n 0, 1) := by decide +kernel
theorem dX11_leastCost_17 : decode cX11_leastCost 17 = .ok (.getfield 19, 3) := by decide +kernel
theorem dX11_leastCost_20 : decode cX11_leastCost 20 = .ok (.aload_n 0, 1) := by decide +kernel
theorem dX11_leastCost_21 : decode cX11_leastCost 21 = .ok (.getfield 19, 3) := by decide +kernel
theorem dX11_leastCost_24 : decode cX11_leastCost 24 = .ok (.invokevirtual 248, 3) := by decide +kernel
theorem dX11_leastCost_27 : decode cX11_leastCost 27 = .ok (.invokevirtual 251, 3) := by decide +kernel
theorem dX11_leastCost_30 : decode cX11_leastCost 30 = .ok (.aload_n 0, 1) := by decide +kernel
theorem dX11_leastCost_31 : decode cX11_leastCost 31 = .ok (.getfield 61, 3) := by decide +kernel
theorem dX11_leastCost_34 : decode cX11_leastCost 34 = .ok (.aload_n 0, 1) := by decide +kernel
theorem dX11_leastCost_35 : decode cX11_leastCost 35 = .ok (.getfield 19, 3) := by decide +kernel
theorem dX11_leastCost_38 : decode cX11_leastCost 38 = .ok (.aload_n 0, 1) := by decide +kernel
theorem dX11_leastCost_39 : decode cX11_leastCost 39 = .ok (.getfield 47, 3) := by decide +kernel
theorem dX11_leastCost_42 : decode cX11_leastCost 42 = .ok (.aload_n 0, 1) := by decide +kernel
theorem dX11_leastCost_43 : decode cX11_leastCost 43 = .ok (.getfield 54, 3) := by decide +kernel
theorem dX11_leastCost_46 : decode cX11_leastCost 46 = .ok (.iload_n 2, 1) := by decide +kernel
theorem dX11_leastCost_47 : decode cX11_leastCost 47 = .ok (.iload_n 3, 1) := by decide +kernel
theorem dX11_leastCost_48 : decode cX11_leastCost 48 = .ok (.invokevirtual 449, 3) := by decide +kernel
theorem dX11_leastCost_51 : decode cX11_leastCost 51 = .ok (.aload_n 0, 1) := by decide +kernel
theorem dX11_leastCost_52 : decode cX11_leastCost 52 = .ok (.getfield 61, 3) := by decide +kernel
theorem dX11_leastCost_55 : decode cX11_leastCost 55 = .ok (.getfield 453, 3) := by decide +kernel
theorem dX11_leastCost_58 : decode cX11_leastCost 58 = .ok (.ireturn, 1) := by decide +kernel
theorem dX11_letter_0 : decode cX11_letter 0 = .ok (.aload_n 0, 1) := by decide +kernel
theorem dX11_letter_1 : decode cX11_letter 1 = .ok (.getfield 19, 3) := by decide +kernel
theorem dX11_letter_4 : decode cX11_letter 4 = .ok (.iload_n 2, 1) := by decide +kernel
theorem dX11_letter_5 : decode cX11_letter 5 = .ok (.invokevirtual 150, 3) := by decide +kernel
theorem dX11_letter_8 : decode cX11_letter 8 = .ok (.ifCond .eq 13, 3) := by decide +kernel
theorem dX11_letter_11 : decode cX11_letter 11 = .ok (.iload_n 1, 1) := by decide +kernel
theorem dX11_letter_12 : decode cX11_letter 12 = .ok (.iconst 1, 1) := by decide +kernel
theorem dX11_letter_13 : decode cX11_letter 13 = .ok (.if_icmp .lt 8, 3) := by decide +kernel
theorem dX11_letter_16 : decode cX11_letter 16 = .ok (.iload_n 1, 1) := by decide +kernel
theorem dX11_letter_17 : decode cX11_letter 17 = .ok (.iconst 4, 1) := by decide +kernel
theorem dX11_letter_18 : decode cX11_letter 18 = .ok (.if_icmp .le 6, 3) := by decide +kernel
theorem dX11_letter_21 : decode cX11_letter 21 = .ok (.bipush (-2), 2) := by decide +kernel
theorem dX11_letter_23 : decode cX11_letter 23 = .ok (.ireturn, 1) := by decide +kernel
theorem dX11_letter_24 : decode cX11_letter 24 = .ok (.aload_n 0, 1) := by decide +kernel
theorem dX11_letter_25 : decode cX11_letter 25 = .ok (.getfield 75, 3) := by decide +kernel
theorem dX11_letter_28 : decode cX11_letter 28 = .ok (.aload_n 0, 1) := by decide +kernel
theorem dX11_letter_29 : decode cX11_letter 29 = .ok (.getfield 19, 3) := by decide +kernel
theorem dX11_letter_32 : decode cX11_letter 32 = .ok (.iload_n 1, 1) := by decide +kernel
theorem dX11_letter_33 : decode cX11_letter 33 = .ok (.invokevirtual 324, 3) := by decide +kernel
theorem dX11_letter_36 : decode cX11_letter 36 = .ok (.aload_n 0, 1) := by decide +kernel
theorem dX11_letter_37 : decode cX11_letter 37 = .ok (.getfield 75, 3) := by decide +kernel
theorem dX11_letter_40 : decode cX11_letter 40 = .ok (.getfield 330, 3) := by decide +kernel
theorem dX11_letter_43 : decode cX11_letter 43 = .ok (.iload_n 2, 1) := by decide +kernel
theorem dX11_letter_44 : decode cX11_letter 44 = .ok (.iaload, 1) := by decide +kernel
theorem dX11_letter_45 : decode cX11_letter 45 = .ok (.ireturn, 1) := by decide +kernel
theorem dX11_now_0 : decode cX11_now 0 = .ok (.aload_n 0, 1) := by decide +kernel
theorem dX11_now_1 : decode cX11_now 1 = .ok (.getfield 19, 3) := by decide +kernel
theorem dX11_now_4 : decode cX11_now 4 = .ok (.iload_n 1, 1) := by decide +kernel
theorem dX11_now_5 : decode cX11_now 5 = .ok (.invokevirtual 122, 3) := by decide +kernel
theorem dX11_now_8 : decode cX11_now 8 = .ok (.ifCond .eq 25, 3) := by decide +kernel
theorem dX11_now_11 : decode cX11_now 11 = .ok (.aload_n 0, 1) := by decide +kernel
theorem dX11_now_12 : decode cX11_now 12 = .ok (.getfield 19, 3) := by decide +kernel
theorem dX11_now_15 : decode cX11_now 15 = .ok (.iload_n 2, 1) := by decide +kernel
theorem dX11_now_16 : decode cX11_now 16 = .ok (.invokevirtual 290, 3) := by decide +kernel
theorem dX11_now_19 : decode cX11_now 19 = .ok (.ifCond .eq 14, 3) := by decide +kernel
theorem dX11_now_22 : decode cX11_now 22 = .ok (.aload_n 0, 1) := by decide +kernel
theorem dX11_now_23 : decode cX11_now 23 = .ok (.getfield 19, 3) := by decide +kernel
theorem dX11_now_26 : decode cX11_now 26 = .ok (.iload_n 3, 1) := by decide +kernel
theorem dX11_now_27 : decode cX11_now 27 = .ok (.invokevirtual 159, 3) := by decide +kernel
theorem dX11_now_30 : decode cX11_now 30 = .ok (.ifCond .ne 6, 3) := by decide +kernel
theorem dX11_now_33 : decode cX11_now 33 = .ok (.bipush (-2), 2) := by decide +kernel
theorem dX11_now_35 : decode cX11_now 35 = .ok (.ireturn, 1) := by decide +kernel
theorem dX11_now_36 : decode cX11_now 36 = .ok (.aload_n 0, 1) := by decide +kernel
theorem dX11_now_37 : decode cX11_now 37 = .ok (.iload_n 1, 1) := by decide +kernel
theorem dX11_now_38 : decode cX11_now 38 = .ok (.iload_n 2, 1) := by decide +kernel
theorem dX11_now_39 : decode cX11_now 39 = .ok (.iload_n 3, 1) := by decide +kernel
theorem dX11_now_40 : decode cX11_now 40 = .ok (.invokevirtual 283, 3) := by decide +kernel
theorem dX11_now_43 : decode cX11_now 43 = .ok (.aload_n 0, 1) := by decide +kernel
theorem dX11_now_44 : decode cX11_now 44 = .ok (.getfield 68, 3) := by decide +kernel
theorem dX11_now_47 : decode cX11_now 47 = .ok (.getfield 293, 3) := by decide +kernel
theorem dX11_now_50 : decode cX11_now 50 = .ok (.ireturn, 1) := by decide +kernel
theorem dX11_orderWeek_0 : decode cX11_orderWeek 0 = .ok (.aload_n 0, 1) := by decide +kernel
theorem dX11_orderWeek_1 : decode cX11_orderWeek 1 = .ok (.getfield 19, 3) := by decide +kernel
theorem dX11_orderWeek_4 : decode cX11_orderWeek 4 = .ok (.iload_n 2, 1) := by decide +kernel
theorem dX11_orderWeek_5 : decode cX11_orderWeek 5 = .ok (.invokevirtual 122, 3) := by decide +kernel
theorem dX11_orderWeek_8 : decode cX11_orderWeek 8 = .ok (.ifCond .ne 6, 3) := by decide +kernel
theorem dX11_orderWeek_11 : decode cX11_orderWeek 11 = .ok (.bipush (-2), 2) := by decide +kernel
theorem dX11_orderWeek_13 : decode cX11_orderWeek 13 = .ok (.ireturn, 1) := by decide +kernel
theorem dX11_orderWeek_14 : decode cX11_orderWeek 14 = .ok (.aload_n 0, 1) := by decide +kernel
theorem dX11_orderWeek_15 : decode cX11_orderWeek 15 = .ok (.iload_n 1, 1) := by decide +kernel
theorem dX11_orderWeek_16 : decode cX11_orderWeek 16 = .ok (.invokevirtual 183, 3) := by decide +kernel
theorem dX11_orderWeek_19 : decode cX11_orderWeek 19 = .ok (.istore_n 3, 1) := by decide +kernel
theorem dX11_orderWeek_20 : decode cX11_orderWeek 20 = .ok (.iload_n 3, 1) := by decide +kernel
theorem dX11_orderWeek_21 : decode cX11_orderWeek 21 = .ok (.ifCond .ge 5, 3) := by decide +kernel
theorem dX11_orderWeek_24 : decode cX11_orderWeek 24 = .ok (.iload_n 3, 1) := by decide +kernel
theorem dX11_orderWeek_25 : decode cX11_orderWeek 25 = .ok (.ireturn, 1) := by decide +kernel
theorem dX11_orderWeek_26 : decode cX11_orderWeek 26 = .ok (.aload_n 0, 1) := by decide +kernel
theorem dX11_orderWeek_27 : decode cX11_orderWeek 27 = .ok (.getfield 40, 3) := by decide +kernel
theorem dX11_orderWeek_30 : decode cX11_orderWeek 30 = .ok (.getfield 222, 3) := by decide +kernel
theorem dX11_orderWeek_33 : decode cX11_orderWeek 33 = .ok (.bipush 6, 2) := by decide +kernel
theorem dX11_orderWeek_35 : decode cX11_orderWeek 35 = .ok (.if_icmp .le 6, 3) := by decide +kernel
theorem dX11_orderWeek_38 : decode cX11_orderWeek 38 = .ok (.bipush (-2), 2) := by decide +kernel
theorem dX11_orderWeek_40 : decode cX11_orderWeek 40 = .ok (.ireturn, 1) := by decide +kernel
theorem dX11_orderWeek_41 : decode cX11_orderWeek 41 = .ok (.aload_n 0, 1) := by decide +kernel
theorem dX11_orderWeek_42 : decode cX11_orderWeek 42 = .ok (.getfield 47, 3) := by decide +kernel
theorem dX11_orderWeek_45 : decode cX11_orderWeek 45 = .ok (.aload_n 0, 1) := by decide +kernel
theorem dX11_orderWeek_46 : decode cX11_orderWeek 46 = .ok (.getfield 19, 3) := by decide +kernel
theorem dX11_orderWeek_49 : decode cX11_orderWeek 49 = .ok (.iload_n 2, 1) := by decide +kernel
theorem dX11_orderWeek_50 : decode cX11_orderWeek 50 = .ok (.invokevirtual 442, 3) := by decide +kernel
theorem dX11_orderWeek_53 : decode cX11_orderWeek 53 = .ok (.aload_n 0, 1) := by decide +kernel
theorem dX11_orderWeek_54 : decode cX11_orderWeek 54 = .ok (.getfield 40, 3) := by decide +kernel
theorem dX11_orderWeek_57 : decode cX11_orderWeek 57 = .ok (.aload_n 0, 1) := by decide +kernel
theorem dX11_orderWeek_58 : decode cX11_orderWeek 58 = .ok (.getfield 19, 3) := by decide +kernel
theorem dX11_orderWeek_61 : decode cX11_orderWeek 61 = .ok (.aload_n 0, 1) := by decide +kernel
theorem dX11_orderWeek_62 : decode cX11_orderWeek 62 = .ok (.getfield 47, 3) := by decide +kernel
theorem dX11_orderWeek_65 : decode cX11_orderWeek 65 = .ok (.invokevirtual 445, 3) := by decide +kernel
theorem dX11_orderWeek_68 : decode cX11_orderWeek 68 = .ok (.iconst 0, 1) := by decide +kernel
theorem dX11_orderWeek_69 : decode cX11_orderWeek 69 = .ok (.ireturn, 1) := by decide +kernel
theorem dX11_rest_0 : decode cX11_rest 0 = .ok (.aload_n 0, 1) := by decide +kernel
theorem dX11_rest_1 : decode cX11_rest 1 = .ok (.getfield 19, 3) := by decide +kernel
theorem dX11_rest_4 : decode cX11_rest 4 = .ok (.iload_n 1, 1) := by decide +kernel
theorem dX11_rest_5 : decode cX11_rest 5 = .ok (.invokevirtual 122, 3) := by decide +kernel
theorem dX11_rest_8 : decode cX11_rest 8 = .ok (.ifCond .ne 6, 3) := by decide +kernel
theorem dX11_rest_11 : decode cX11_rest 11 = .ok (.bipush (-2), 2) := by decide +kernel
theorem dX11_rest_13 : decode cX11_rest 13 = .ok (.ireturn, 1) := by decide +kernel
theorem dX11_rest_14 : decode cX11_rest 14 = .ok (.aload_n 0, 1) := by decide +kernel
theorem dX11_rest_15 : decode cX11_rest 15 = .ok (.iload_n 1, 1) := by decide +kernel
theorem dX11_rest_16 : decode cX11_rest 16 = .ok (.iconst 0, 1) := by decide +kernel
theorem dX11_rest_17 : decode cX11_rest 17 = .ok (.iconst 0, 1) := by decide +kernel
theorem dX11_rest_18 : decode cX11_rest 18 = .ok (.invokevirtual 226, 3) := by decide +kernel
theorem dX11_rest_21 : decode cX11_rest 21 = .ok (.iconst (-1), 1) := by decide +kernel
theorem dX11_rest_22 : decode cX11_rest 22 = .ok (.if_icmp .ne 5, 3) := by decide +kernel
theorem dX11_rest_25 : decode cX11_rest 25 = .ok (.iconst (-1), 1) := by decide +kernel
theorem dX11_rest_26 : decode cX11_rest 26 = .ok (.ireturn, 1) := by decide +kernel
theorem dX11_rest_27 : decode cX11_rest 27 = .ok (.iconst 0, 1) := by decide +kernel
theorem dX11_rest_28 : decode cX11_rest 28 = .ok (.istore_n 2, 1) := by decide +kernel
theorem dX11_rest_29 : decode cX11_rest 29 = .ok (.iconst 0, 1) := by decide +kernel
theorem dX11_rest_30 : decode cX11_rest 30 = .ok (.istore_n 3, 1) := by decide +kernel
theorem dX11_rest_31 : decode cX11_rest 31 = .ok (.iconst 0, 1) := by decide +kernel
theorem dX11_rest_32 : decode cX11_rest 32 = .ok (.istore 4, 2) := by decide +kernel
theorem dX11_rest_34 : decode cX11_rest 34 = .ok (.iload 4, 2) := by decide +kernel
theorem dX11_rest_36 : decode cX11_rest 36 = .ok (.aload_n 0, 1) := by decide +kernel
theorem dX11_rest_37 : decode cX11_rest 37 = .ok (.getfield 19, 3) := by decide +kernel
theorem dX11_rest_40 : decode cX11_rest 40 = .ok (.getfield 230, 3) := by decide +kernel
theorem dX11_rest_43 : decode cX11_rest 43 = .ok (.if_icmp .ge 38, 3) := by decide +kernel
theorem dX11_rest_46 : decode cX11_rest 46 = .ok (.aload_n 0, 1) := by decide +kernel
theorem dX11_rest_47 : decode cX11_rest 47 = .ok (.getfield 61, 3) := by decide +kernel
theorem dX11_rest_50 : decode cX11_rest 50 = .ok (.getfield 233, 3) := by decide +kernel
theorem dX11_rest_53 : decode cX11_rest 53 = .ok (.iload 4, 2) := by decide +kernel
theorem dX11_rest_55 : decode cX11_rest 55 = .ok (.iaload, 1) := by decide +kernel
theorem dX11_rest_56 : decode cX11_rest 56 = .ok (.bipush 8, 2) := by decide +kernel
theorem dX11_rest_58 : decode cX11_rest 58 = .ok (.if_icmp .ne 9, 3) := by decide +kernel
theorem dX11_rest_61 : decode cX11_rest 61 = .ok (.iload_n 3, 1) := by decide +kernel
theorem dX11_rest_62 : decode cX11_rest 62 = .ok (.iconst 1, 1) := by decide +kernel
theorem dX11_rest_63 : decode cX11_rest 63 = .ok (.iadd, 1) := by decide +kernel
theorem dX11_rest_64 : decode cX11_rest 64 = .ok (.goto 4, 3) := by decide +kernel
theorem dX11_rest_67 : decode cX11_rest 67 = .ok (.iconst 0, 1) := by decide +kernel
theorem dX11_rest_68 : decode cX11_rest 68 = .ok (.istore_n 3, 1) := by decide +kernel
theorem dX11_rest_69 : decode cX11_rest 69 = .ok (.iload_n 2, 1) := by decide +kernel
theorem dX11_rest_70 : decode cX11_rest 70 = .ok (.iload_n 3, 1) := by decide +kernel
theorem dX11_rest_71 : decode cX11_rest 71 = .ok (.invokestatic 236, 3) := by decide +kernel
theorem dX11_rest_74 : decode cX11_rest 74 = .ok (.istore_n 2, 1) := by decide +kernel
theorem dX11_rest_75 : decode cX11_rest 75 = .ok (.iinc 4 1, 3) := by decide +kernel
theorem dX11_rest_78 : decode cX11_rest 78 = .ok (.goto (-44), 3) := by decide +kernel
theorem dX11_rest_81 : decode cX11_rest 81 = .ok (.iload_n 2, 1) := by decide +kernel
theorem dX11_rest_82 : decode cX11_rest 82 = .ok (.ireturn, 1) := by decide +kernel
theorem dX11_risk_0 : decode cX11_risk 0 = .ok (.aload_n 0, 1) := by decide +kernel
theorem dX11_risk_1 : decode cX11_risk 1 = .ok (.getfield 19, 3) := by decide +kernel
theorem dX11_risk_4 : decode cX11_risk 4 = .ok (.iload_n 1, 1) := by decide +kernel
theorem dX11_risk_5 : decode cX11_risk 5 = .ok (.invokevirtual 122, 3) := by decide +kernel
theorem dX11_risk_8 : decode cX11_risk 8 = .ok (.ifCond .ne 6, 3) := by decide +kernel
theorem dX11_risk_11 : decode cX11_risk 11 = .ok (.bipush (-2), 2) := by decide +kernel
theorem dX11_risk_13 : decode cX11_risk 13 = .ok (.ireturn, 1) := by decide +kernel
theorem dX11_risk_14 : decode cX11_risk 14 = .ok (.aload_n 0, 1) := by decide +kernel
theorem dX11_risk_15 : decode cX11_risk 15 = .ok (.iload_n 1, 1) := by decide +kernel
theorem dX11_risk_16 : decode cX11_risk 16 = .ok (.iconst 0, 1) := by decide +kernel
theorem dX11_risk_17 : decode cX11_risk 17 = .ok (.aload_n 0, 1) := by decide +kernel
theorem dX11_risk_18 : decode cX11_risk 18 = .ok (.getfield 19, 3) := by decide +kernel
theorem dX11_risk_21 : decode cX11_risk 21 = .ok (.invokevirtual 248, 3) := by decide +kernel
theorem dX11_risk_24 : decode cX11_risk 24 = .ok (.invokevirtual 283, 3) := by decide +kernel
theorem dX11_risk_27 : decode cX11_risk 27 = .ok (.aload_n 0, 1) := by decide +kernel
theorem dX11_risk_28 : decode cX11_risk 28 = .ok (.getfield 68, 3) := by decide +kernel
theorem dX11_risk_31 : decode cX11_risk 31 = .ok (.getfield 287, 3) := by decide +kernel
theorem dX11_risk_34 : decode cX11_risk 34 = .ok (.ireturn, 1) := by decide +kernel
theorem dX11_softer_0 : decode cX11_softer 0 = .ok (.aload_n 0, 1) := by decide +kernel
theorem dX11_softer_1 : decode cX11_softer 1 = .ok (.iload_n 1, 1) := by decide +kernel
theorem dX11_softer_2 : decode cX11_softer 2 = .ok (.iload_n 2, 1) := by decide +kernel
theorem dX11_softer_3 : decode cX11_softer 3 = .ok (.invokevirtual 216, 3) := by decide +kernel
theorem dX11_softer_6 : decode cX11_softer 6 = .ok (.istore_n 3, 1) := by decide +kernel
theorem dX11_softer_7 : decode cX11_softer 7 = .ok (.iload_n 3, 1) := by decide +kernel
theorem dX11_softer_8 : decode cX11_softer 8 = .ok (.ifCond .ge 7, 3) := by decide +kernel
theorem dX11_softer_11 : decode cX11_softer 11 = .ok (.iload_n 3, 1) := by decide +kernel
theorem dX11_softer_12 : decode cX11_softer 12 = .ok (.goto 10, 3) := by decide +kernel
theorem dX11_softer_15 : decode cX11_softer 15 = .ok (.aload_n 0, 1) := by decide +kernel
theorem dX11_softer_16 : decode cX11_softer 16 = .ok (.getfield 40, 3) := by decide +kernel
theorem dX11_softer_19 : decode cX11_softer 19 = .ok (.getfield 219, 3) := by decide +kernel
theorem dX11_softer_22 : decode cX11_softer 22 = .ok (.ireturn, 1) := by decide +kernel
theorem dX11_step_0 : decode cX11_step 0 = .ok (.aload_n 0, 1) := by decide +kernel
theorem dX11_step_1 : decode cX11_step 1 = .ok (.iload_n 1, 1) := by decide +kernel
theorem dX11_step_2 : decode cX11_step 2 = .ok (.iload_n 2, 1) := by decide +kernel
theorem dX11_step_3 : decode cX11_step 3 = .ok (.iconst 0, 1) := by decide +kernel
theorem dX11_step_4 : decode cX11_step 4 = .ok (.iconst 0, 1) := by decide +kernel
theorem dX11_step_5 : decode cX11_step 5 = .ok (.invokevirtual 241, 3) := by decide +kernel
theorem dX11_step_8 : decode cX11_step 8 = .ok (.ireturn, 1) := by decide +kernel
theorem dX11_tender_0 : decode cX11_tender 0 = .ok (.aload_n 0, 1) := by decide +kernel
theorem dX11_tender_1 : decode cX11_tender 1 = .ok (.getfield 19, 3) := by decide +kernel
theorem dX11_tender_4 : decode cX11_tender 4 = .ok (.iload_n 1, 1) := by decide +kernel
theorem dX11_tender_5 : decode cX11_tender 5 = .ok (.invokevirtual 122, 3) := by decide +kernel
theorem dX11_tender_8 : decode cX11_tender 8 = .ok (.ifCond .eq 13, 3) := by decide +kernel
theorem dX11_tender_11 : decode cX11_tender 11 = .ok (.aload_n 0, 1) := by decide +kernel
theorem dX11_tender_12 : decode cX11_tender 12 = .ok (.iload_n 1, 1) := by decide +kernel
theorem dX11_tender_13 : decode cX11_tender 13 = .ok (.iconst 1, 1) := by decide +kernel
theorem dX11_tender_14 : decode cX11_tender 14 = .ok (.iconst 1, 1) := by decide +kernel
theorem dX11_tender_15 : decode cX11_tender 15 = .ok (.invokevirtual 226, 3) := by decide +kernel
theorem dX11_tender_18 : decode cX11_tender 18 = .ok (.goto 5, 3) := by decide +kernel
theorem dX11_tender_21 : decode cX11_tender 21 = .ok (.bipush (-2), 2) := by decide +kernel
theorem dX11_tender_23 : decode cX11_tender 23 = .ok (.ireturn, 1) := by decide +kernel
theorem dX11_tenderly_0 : decode cX11_tenderly 0 = .ok (.aload_n 0, 1) := by decide +kernel
theorem dX11_tenderly_1 : decode cX11_tenderly 1 = .ok (.iload_n 1, 1) := by decide +kernel
theorem dX11_tenderly_2 : decode cX11_tenderly 2 = .ok (.iload_n 2, 1) := by decide +kernel
theorem dX11_tenderly_3 : decode cX11_tenderly 3 = .ok (.iconst 1, 1) := by decide +kernel
theorem dX11_tenderly_4 : decode cX11_tenderly 4 = .ok (.iconst 1, 1) := by decide +kernel
theorem dX11_tenderly_5 : decode cX11_tenderly 5 = .ok (.invokevirtual 241, 3) := by decide +kernel
theorem dX11_tenderly_8 : decode cX11_tenderly 8 = .ok (.ireturn, 1) := by decide +kernel
theorem dX11_truly_0 : decode cX11_truly 0 = .ok (.aload_n 0, 1) := by decide +kernel
theorem dX11_truly_1 : decode cX11_truly 1 = .ok (.getfield 19, 3) := by decide +kernel
theorem dX11_truly_4 : decode cX11_truly 4 = .ok (.iload_n 1, 1) := by decide +kernel
theorem dX11_truly_5 : decode cX11_truly 5 = .ok (.invokevirtual 122, 3) := by decide +kernel
theorem dX11_truly_8 : decode cX11_truly 8 = .ok (.ifCond .eq 13, 3) := by decide +kernel
theorem dX11_truly_11 : decode cX11_truly 11 = .ok (.aload_n 0, 1) := by decide +kernel
theorem dX11_truly_12 : decode cX11_truly 12 = .ok (.iload_n 1, 1) := by decide +kernel
theorem dX11_truly_13 : decode cX11_truly 13 = .ok (.iconst 0, 1) := by decide +kernel
theorem dX11_truly_14 : decode cX11_truly 14 = .ok (.iconst 1, 1) := by decide +kernel
theorem dX11_truly_15 : decode cX11_truly 15 = .ok (.invokevirtual 226, 3) := by decide +kernel
theorem dX11_truly_18 : decode cX11_truly 18 = .ok (.goto 5, 3) := by decide +kernel
theorem dX11_truly_21 : decode cX11_truly 21 = .ok (.bipush (-2), 2) := by decide +kernel
theorem dX11_truly_23 : decode cX11_truly 23 = .ok (.ireturn, 1) := by decide +kernel
theorem dX11_weighRisks_0 : decode cX11_weighRisks 0 = .ok (.aload_n 0, 1) := by decide +kernel
theorem dX11_weighRisks_1 : decode cX11_weighRisks 1 = .ok (.getfield 47, 3) := by decide +kernel
theorem dX11_weighRisks_4 : decode cX11_weighRisks 4 = .ok (.aload_n 0, 1) := by decide +kernel
theorem dX11_weighRisks_5 : decode cX11_weighRisks 5 = .ok (.getfield 19, 3) := by decide +kernel
theorem dX11_weighRisks_8 : decode cX11_weighRisks 8 = .ok (.iload_n 1, 1) := by decide +kernel
theorem dX11_weighRisks_9 : decode cX11_weighRisks 9 = .ok (.invokevirtual 442, 3) := by decide +kernel
theorem dX11_weighRisks_12 : decode cX11_weighRisks 12 = .ok (.aload_n 0, 1) := by decide +kernel
theorem dX11_weighRisks_13 : decode cX11_weighRisks 13 = .ok (.getfield 54, 3) := by decide +kernel
theorem dX11_weighRisks_16 : decode cX11_weighRisks 16 = .ok (.aload_n 0, 1) := by decide +kernel
theorem dX11_weighRisks_17 : decode cX11_weighRisks 17 = .ok (.getfield 19, 3) := by decide +kernel
theorem dX11_weighRisks_20 : decode cX11_weighRisks 20 = .ok (.iload_n 3, 1) := by decide +kernel
theorem dX11_weighRisks_21 : decode cX11_weighRisks 21 = .ok (.invokevirtual 251, 3) := by decide +kernel
theorem dX11_weighRisks_24 : decode cX11_weighRisks 24 = .ok (.aload_n 0, 1) := by decide +kernel
theorem dX11_weighRisks_25 : decode cX11_weighRisks 25 = .ok (.getfield 68, 3) := by decide +kernel
theorem dX11_weighRisks_28 : decode cX11_weighRisks 28 = .ok (.aload_n 0, 1) := by decide +kernel
theorem dX11_weighRisks_29 : decode cX11_weighRisks 29 = .ok (.getfield 19, 3) := by decide +kernel
theorem dX11_weighRisks_32 : decode cX11_weighRisks 32 = .ok (.aload_n 0, 1) := by decide +kernel
theorem dX11_weighRisks_33 : decode cX11_weighRisks 33 = .ok (.getfield 47, 3) := by decide +kernel
theorem dX11_weighRisks_36 : decode cX11_weighRisks 36 = .ok (.aload_n 0, 1) := by decide +kernel
theorem dX11_weighRisks_37 : decode cX11_weighRisks 37 = .ok (.getfield 54, 3) := by decide +kernel
theorem dX11_weighRisks_40 : decode cX11_weighRisks 40 = .ok (.iload_n 2, 1) := by decide +kernel
theorem dX11_weighRisks_41 : decode cX11_weighRisks 41 = .ok (.iload_n 3, 1) := by decide +kernel
theorem dX11_weighRisks_42 : decode cX11_weighRisks 42 = .ok (.invokevirtual 454, 3) := by decide +kernel
theorem dX11_weighRisks_45 : decode cX11_weighRisks 45 = .ok (.return_, 1) := by decide +kernel
theorem dX11_wordOfBest_0 : decode cX11_wordOfBest 0 = .ok (.aload_n 0, 1) := by decide +kernel
theorem dX11_wordOfBest_1 : decode cX11_wordOfBest 1 = .ok (.getfield 19, 3) := by decide +kernel
theorem dX11_wordOfBest_4 : decode cX11_wordOfBest 4 = .ok (.iload_n 1, 1) := by decide +kernel
theorem dX11_wordOfBest_5 : decode cX11_wordOfBest 5 = .ok (.invokevirtual 122, 3) := by decide +kernel
theorem dX11_wordOfBest_8 : decode cX11_wordOfBest 8 = .ok (.ifCond .eq 14, 3) := by decide +kernel
theorem dX11_wordOfBest_11 : decode cX11_wordOfBest 11 = .ok (.aload_n 0, 1) := by decide +kernel
theorem dX11_wordOfBest_12 : decode cX11_wordOfBest 12 = .ok (.getfield 19, 3) := by decide +kernel
theorem dX11_wordOfBest_15 : decode cX11_wordOfBest 15 = .ok (.iload_n 2, 1) := by decide +kernel
theorem dX11_wordOfBest_16 : decode cX11_wordOfBest 16 = .ok (.invokevirtual 290, 3) := by decide +kernel
theorem dX11_wordOfBest_19 : decode cX11_wordOfBest 19 = .ok (.ifCond .ne 6, 3) := by decide +kernel
theorem dX11_wordOfBest_22 : decode cX11_wordOfBest 22 = .ok (.bipush (-2), 2) := by decide +kernel
theorem dX11_wordOfBest_24 : decode cX11_wordOfBest 24 = .ok (.ireturn, 1) := by decide +kernel
theorem dX11_wordOfBest_25 : decode cX11_wordOfBest 25 = .ok (.aload_n 0, 1) := by decide +kernel
theorem dX11_wordOfBest_26 : decode cX11_wordOfBest 26 = .ok (.iload_n 1, 1) := by decide +kernel
theorem dX11_wordOfBest_27 : decode cX11_wordOfBest 27 = .ok (.iload_n 3, 1) := by decide +kernel
theorem dX11_wordOfBest_28 : decode cX11_wordOfBest 28 = .ok (.iload 4, 2) := by decide +kernel
theorem dX11_wordOfBest_30 : decode cX11_wordOfBest 30 = .ok (.invokevirtual 226, 3) := by decide +kernel
theorem dX11_wordOfBest_33 : decode cX11_wordOfBest 33 = .ok (.iconst (-1), 1) := by decide +kernel
theorem dX11_wordOfBest_34 : decode cX11_wordOfBest 34 = .ok (.if_icmp .ne 5, 3) := by decide +kernel
theorem dX11_wordOfBest_37 : decode cX11_wordOfBest 37 = .ok (.iconst (-1), 1) := by decide +kernel
theorem dX11_wordOfBest_38 : decode cX11_wordOfBest 38 = .ok (.ireturn, 1) := by decide +kernel
theorem dX11_wordOfBest_39 : decode cX11_wordOfBest 39 = .ok (.aload_n 0, 1) := by decide +kernel
theorem dX11_wordOfBest_40 : decode cX11_wordOfBest 40 = .ok (.getfield 61, 3) := by decide +kernel
theorem dX11_wordOfBest_43 : decode cX11_wordOfBest 43 = .ok (.getfield 233, 3) := by decide +kernel
theorem dX11_wordOfBest_46 : decode cX11_wordOfBest 46 = .ok (.iload_n 2, 1) := by decide +kernel
theorem dX11_wordOfBest_47 : decode cX11_wordOfBest 47 = .ok (.iaload, 1) := by decide +kernel
theorem dX11_wordOfBest_48 : decode cX11_wordOfBest 48 = .ok (.ireturn, 1) := by decide +kernel
