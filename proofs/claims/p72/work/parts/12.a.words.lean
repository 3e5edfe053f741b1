theorem b_51 : Cond.methodLink RX0 120 yX0_meanOf ∈ BIG := bi (tin_4 _ (List.mem_of_getElem? (i := 7) rfl)) rfl
theorem b_52 : Cond.methodLinkNest RX0 123 yX4_hurtOf RX11 ∈ nests := ne (tin_4 _ (List.mem_of_getElem? (i := 8) rfl)) rfl
theorem b_53 : Cond.methodLink RX0 128 yX0_truth ∈ BIG := bi (tin_5 _ (List.mem_of_getElem? (i := 33) rfl)) rfl
theorem b_54 : Cond.methodLink RX0 131 yX0_hurtBetween ∈ BIG := bi (tin_5 _ (List.mem_of_getElem? (i := 34) rfl)) rfl
theorem b_55 : Cond.fieldLink RX0 56 "GentleLetters$Desk" "heal" "I" ∈ BIG := bi (tin_1 _ (List.mem_of_getElem? (i := 110) rfl)) rfl
theorem b_56 : Cond.methodLink RX0 135 yJ9_max_7cf53 ∈ BIG := bi (tin_4 _ (List.mem_of_getElem? (i := 90) rfl)) rfl
theorem b_57 : Cond.static yJ9_max_7cf53 ∈ BIG := bi (tin_4 _ (List.mem_of_getElem? (i := 76) rfl)) rfl
theorem b_58 : Cond.initialized RJ9 ∈ BIG := bi (tin_1 _ (List.mem_of_getElem? (i := 15) rfl)) rfl
theorem b_59 : Cond.code yJ9_max_7cf53 cJ9_max_7cf53 2 (some .int) ∈ BIG := bi (tin_4 _ (List.mem_of_getElem? (i := 77) rfl)) rfl
theorem b_60 : Cond.fieldLink RX0 59 "GentleLetters$Desk" "leak" "I" ∈ BIG := bi (tin_1 _ (List.mem_of_getElem? (i := 113) rfl)) rfl
theorem b_61 : Cond.methodLink RX0 140 yX0_leftOf ∈ BIG := bi (tin_5 _ (List.mem_of_getElem? (i := 120) rfl)) rfl
theorem b_62 : Cond.methodLink RX0 143 yX0_inTheMean ∈ BIG := bi (tin_5 _ (List.mem_of_getElem? (i := 121) rfl)) rfl
theorem b_63 : Cond.methodLink RX0 146 yX0_planWord ∈ BIG := bi (tin_5 _ (List.mem_of_getElem? (i := 134) rfl)) rfl
theorem b_64 : Cond.methodLink RX0 149 yX0_nextBelief ∈ BIG := bi (tin_5 _ (List.mem_of_getElem? (i := 156) rfl)) rfl
theorem b_65 : Cond.fieldLink RX0 21 "GentleLetters$Desk" "told" "[I" ∈ BIG := bi (tin_1 _ (List.mem_of_getElem? (i := 145) rfl)) rfl
theorem b_66 : Cond.constantLong RX0 158 (1103515245) ∈ BIG := bi (tin_6 _ (List.mem_of_getElem? (i := 38) rfl)) rfl
theorem b_67 : Cond.constantLong RX0 160 (12345) ∈ BIG := bi (tin_6 _ (List.mem_of_getElem? (i := 39) rfl)) rfl
theorem b_68 : Cond.constantLong RX0 162 (2147483648) ∈ BIG := bi (tin_6 _ (List.mem_of_getElem? (i := 40) rfl)) rfl
theorem b_69 : Cond.constantLong RX0 164 (65536) ∈ BIG := bi (tin_6 _ (List.mem_of_getElem? (i := 41) rfl)) rfl
theorem b_70 : Cond.constantLong RX0 166 (100) ∈ BIG := bi (tin_6 _ (List.mem_of_getElem? (i := 42) rfl)) rfl
theorem b_71 : Cond.code yX0_hurtBetween cX0_hurtBetween 4 (some .int) ∈ BIG := bi (tin_4 _ (List.mem_of_getElem? (i := 6) rfl)) rfl
theorem b_72 : Cond.instanceMethod yX0_hurtBetween ∈ BIG := bi (tin_4 _ (List.mem_of_getElem? (i := 5) rfl)) rfl
theorem b_73 : Cond.selects RX0 yX0_hurtBetween yX0_hurtBetween ∈ BIG := bi (sin_3 _ (List.mem_map.mpr ⟨(yX0_hurtBetween, 20), List.mem_of_getElem? (i := 4) rfl, rfl⟩)) rfl
theorem b_74 : Cond.code yX0_inTheMean cX0_inTheMean 3 (some .int) ∈ BIG := bi (tin_5 _ (List.mem_of_getElem? (i := 106) rfl)) rfl
theorem b_75 : Cond.instanceMethod yX0_inTheMean ∈ BIG := bi (tin_5 _ (List.mem_of_getElem? (i := 105) rfl)) rfl
theorem b_76 : Cond.selects RX0 yX0_inTheMean yX0_inTheMean ∈ BIG := bi (sin_5 _ (List.mem_map.mpr ⟨(yX0_inTheMean, 20), List.mem_of_getElem? (i := 13) rfl, rfl⟩)) rfl
theorem b_77 : Cond.code yX0_leftOf cX0_leftOf 3 (some .int) ∈ BIG := bi (tin_4 _ (List.mem_of_getElem? (i := 89) rfl)) rfl
theorem b_78 : Cond.instanceMethod yX0_leftOf ∈ BIG := bi (tin_4 _ (List.mem_of_getElem? (i := 88) rfl)) rfl
theorem b_79 : Cond.selects RX0 yX0_leftOf yX0_leftOf ∈ BIG := bi (sin_4 _ (List.mem_map.mpr ⟨(yX0_leftOf, 20), List.mem_of_getElem? (i := 0) rfl, rfl⟩)) rfl
theorem b_80 : Cond.code yX0_meanOf cX0_meanOf 9 (some .int) ∈ BIG := bi (tin_3 _ (List.mem_of_getElem? (i := 207) rfl)) rfl
theorem b_81 : Cond.instanceMethod yX0_meanOf ∈ BIG := bi (tin_3 _ (List.mem_of_getElem? (i := 206) rfl)) rfl
theorem b_82 : Cond.selects RX0 yX0_meanOf yX0_meanOf ∈ BIG := bi (sin_3 _ (List.mem_map.mpr ⟨(yX0_meanOf, 20), List.mem_of_getElem? (i := 0) rfl, rfl⟩)) rfl
theorem b_83 : Cond.code yX0_nextBelief cX0_nextBelief 4 (some .int) ∈ BIG := bi (tin_3 _ (List.mem_of_getElem? (i := 238) rfl)) rfl
theorem b_84 : Cond.instanceMethod yX0_nextBelief ∈ BIG := bi (tin_3 _ (List.mem_of_getElem? (i := 237) rfl)) rfl
theorem b_85 : Cond.selects RX0 yX0_nextBelief yX0_nextBelief ∈ BIG := bi (sin_3 _ (List.mem_map.mpr ⟨(yX0_nextBelief, 20), List.mem_of_getElem? (i := 3) rfl, rfl⟩)) rfl
theorem b_86 : Cond.code yX0_planWord cX0_planWord 3 (some .int) ∈ BIG := bi (tin_3 _ (List.mem_of_getElem? (i := 179) rfl)) rfl
theorem b_87 : Cond.instanceMethod yX0_planWord ∈ BIG := bi (tin_3 _ (List.mem_of_getElem? (i := 178) rfl)) rfl
theorem b_88 : Cond.selects RX0 yX0_planWord yX0_planWord ∈ BIG := bi (sin_2 _ (List.mem_map.mpr ⟨(yX0_planWord, 20), List.mem_of_getElem? (i := 12) rfl, rfl⟩)) rfl
theorem b_89 : Cond.code yX0_truth cX0_truth 1 (some .int) ∈ BIG := bi (tin_4 _ (List.mem_of_getElem? (i := 120) rfl)) rfl
theorem b_90 : Cond.instanceMethod yX0_truth ∈ BIG := bi (tin_4 _ (List.mem_of_getElem? (i := 119) rfl)) rfl
theorem b_91 : Cond.selects RX0 yX0_truth yX0_truth ∈ BIG := bi (sin_4 _ (List.mem_map.mpr ⟨(yX0_truth, 20), List.mem_of_getElem? (i := 4) rfl, rfl⟩)) rfl
theorem b_92 : Cond.code yX4_hurtOf cX4_hurtOf 1 (some .int) ∈ BIG := bi (tin_4 _ (List.mem_of_getElem? (i := 10) rfl)) rfl
theorem b_93 : Cond.static yX4_hurtOf ∈ BIG := bi (tin_4 _ (List.mem_of_getElem? (i := 9) rfl)) rfl
theorem b_94 : Cond.initialized RX4 ∈ BIG := bi (tin_1 _ (List.mem_of_getElem? (i := 7) rfl)) rfl
theorem m_yX0_hurtBetween : MV yX0_hurtBetween cX0_hurtBetween 4 (some .int) 3 := ⟨b_71, b_72, b_73, b_21, by decide +kernel⟩
theorem m_yX0_inTheMean : MV yX0_inTheMean cX0_inTheMean 3 (some .int) 2 := ⟨b_74, b_75, b_76, b_21, by decide +kernel⟩
theorem m_yX0_leftOf : MV yX0_leftOf cX0_leftOf 3 (some .int) 2 := ⟨b_77, b_78, b_79, b_21, by decide +kernel⟩
theorem m_yX0_meanOf : MV yX0_meanOf cX0_meanOf 9 (some .int) 2 := ⟨b_80, b_81, b_82, b_21, by decide +kernel⟩
theorem m_yX0_nextBelief : MV yX0_nextBelief cX0_nextBelief 4 (some .int) 2 := ⟨b_83, b_84, b_85, b_21, by decide +kernel⟩
theorem m_yX0_planWord : MV yX0_planWord cX0_planWord 3 (some .int) 2 := ⟨b_86, b_87, b_88, b_21, by decide +kernel⟩
theorem m_yX0_truth : MV yX0_truth cX0_truth 1 (some .int) 0 := ⟨b_89, b_90, b_91, b_21, by decide +kernel⟩
theorem m_yX4_hurtOf : MS yX4_hurtOf cX4_hurtOf 1 (some .int) 1 := ⟨b_92, b_93, b_94, by decide +kernel⟩
theorem dX0_beliefBehindPlan_0 : decode cX0_beliefBehindPlan 0 = .ok (.aload_n 0, 1) := by decide +kernel
theorem dX0_beliefBehindPlan_1 : decode cX0_beliefBehindPlan 1 = .ok (.invokevirtual 100, 3) := by decide +kernel
theorem dX0_beliefBehindPlan_4 : decode cX0_beliefBehindPlan 4 = .ok (.istore_n 2, 1) := by decide +kernel
theorem dX0_beliefBehindPlan_5 : decode cX0_beliefBehindPlan 5 = .ok (.iconst 0, 1) := by decide +kernel
theorem dX0_beliefBehindPlan_6 : decode cX0_beliefBehindPlan 6 = .ok (.istore_n 3, 1) := by decide +kernel
theorem dX0_beliefBehindPlan_7 : decode cX0_beliefBehindPlan 7 = .ok (.iload_n 3, 1) := by decide +kernel
theorem dX0_beliefBehindPlan_8 : decode cX0_beliefBehindPlan 8 = .ok (.aload_n 0, 1) := by decide +kernel
theorem dX0_beliefBehindPlan_9 : decode cX0_beliefBehindPlan 9 = .ok (.getfield 30, 3) := by decide +kernel
theorem dX0_beliefBehindPlan_12 : decode cX0_beliefBehindPlan 12 = .ok (.iload_n 1, 1) := by decide +kernel
theorem dX0_beliefBehindPlan_13 : decode cX0_beliefBehindPlan 13 = .ok (.iaload, 1) := by decide +kernel
theorem dX0_beliefBehindPlan_14 : decode cX0_beliefBehindPlan 14 = .ok (.if_icmp .ge 21, 3) := by decide +kernel
theorem dX0_beliefBehindPlan_17 : decode cX0_beliefBehindPlan 17 = .ok (.aload_n 0, 1) := by decide +kernel
theorem dX0_beliefBehindPlan_18 : decode cX0_beliefBehindPlan 18 = .ok (.iload_n 2, 1) := by decide +kernel
theorem dX0_beliefBehindPlan_19 : decode cX0_beliefBehindPlan 19 = .ok (.aload_n 0, 1) := by decide +kernel
theorem dX0_beliefBehindPlan_20 : decode cX0_beliefBehindPlan 20 = .ok (.iload_n 1, 1) := by decide +kernel
theorem dX0_beliefBehindPlan_21 : decode cX0_beliefBehindPlan 21 = .ok (.iload_n 3, 1) := by decide +kernel
theorem dX0_beliefBehindPlan_22 : decode cX0_beliefBehindPlan 22 = .ok (.invokevirtual 146, 3) := by decide +kernel
theorem dX0_beliefBehindPlan_25 : decode cX0_beliefBehindPlan 25 = .ok (.invokevirtual 149, 3) := by decide +kernel
theorem dX0_beliefBehindPlan_28 : decode cX0_beliefBehindPlan 28 = .ok (.istore_n 2, 1) := by decide +kernel
theorem dX0_beliefBehindPlan_29 : decode cX0_beliefBehindPlan 29 = .ok (.iinc 3 1, 3) := by decide +kernel
theorem dX0_beliefBehindPlan_32 : decode cX0_beliefBehindPlan 32 = .ok (.goto (-25), 3) := by decide +kernel
theorem dX0_beliefBehindPlan_35 : decode cX0_beliefBehindPlan 35 = .ok (.iload_n 2, 1) := by decide +kernel
theorem dX0_beliefBehindPlan_36 : decode cX0_beliefBehindPlan 36 = .ok (.ireturn, 1) := by decide +kernel
theorem dX0_costOfWaiting_0 : decode cX0_costOfWaiting 0 = .ok (.aload_n 0, 1) := by decide +kernel
theorem dX0_costOfWaiting_1 : decode cX0_costOfWaiting 1 = .ok (.iload_n 1, 1) := by decide +kernel
theorem dX0_costOfWaiting_2 : decode cX0_costOfWaiting 2 = .ok (.aload_n 0, 1) := by decide +kernel
theorem dX0_costOfWaiting_3 : decode cX0_costOfWaiting 3 = .ok (.getfield 53, 3) := by decide +kernel
theorem dX0_costOfWaiting_6 : decode cX0_costOfWaiting 6 = .ok (.iconst 1, 1) := by decide +kernel
theorem dX0_costOfWaiting_7 : decode cX0_costOfWaiting 7 = .ok (.isub, 1) := by decide +kernel
theorem dX0_costOfWaiting_8 : decode cX0_costOfWaiting 8 = .ok (.iload_n 2, 1) := by decide +kernel
theorem dX0_costOfWaiting_9 : decode cX0_costOfWaiting 9 = .ok (.isub, 1) := by decide +kernel
theorem dX0_costOfWaiting_10 : decode cX0_costOfWaiting 10 = .ok (.invokevirtual 140, 3) := by decide +kernel
theorem dX0_costOfWaiting_13 : decode cX0_costOfWaiting 13 = .ok (.istore_n 3, 1) := by decide +kernel
theorem dX0_costOfWaiting_14 : decode cX0_costOfWaiting 14 = .ok (.iload_n 2, 1) := by decide +kernel
theorem dX0_costOfWaiting_15 : decode cX0_costOfWaiting 15 = .ok (.iconst 1, 1) := by decide +kernel
theorem dX0_costOfWaiting_16 : decode cX0_costOfWaiting 16 = .ok (.isub, 1) := by decide +kernel
theorem dX0_costOfWaiting_17 : decode cX0_costOfWaiting 17 = .ok (.istore 4, 2) := by decide +kernel
theorem dX0_costOfWaiting_19 : decode cX0_costOfWaiting 19 = .ok (.iload 4, 2) := by decide +kernel
theorem dX0_costOfWaiting_21 : decode cX0_costOfWaiting 21 = .ok (.iconst 1, 1) := by decide +kernel
theorem dX0_costOfWaiting_22 : decode cX0_costOfWaiting 22 = .ok (.if_icmp .lt 29, 3) := by decide +kernel
theorem dX0_costOfWaiting_25 : decode cX0_costOfWaiting 25 = .ok (.aload_n 0, 1) := by decide +kernel
theorem dX0_costOfWaiting_26 : decode cX0_costOfWaiting 26 = .ok (.aload_n 0, 1) := by decide +kernel
theorem dX0_costOfWaiting_27 : decode cX0_costOfWaiting 27 = .ok (.iload_n 1, 1) := by decide +kernel
theorem dX0_costOfWaiting_28 : decode cX0_costOfWaiting 28 = .ok (.aload_n 0, 1) := by decide +kernel
theorem dX0_costOfWaiting_29 : decode cX0_costOfWaiting 29 = .ok (.getfield 53, 3) := by decide +kernel
theorem dX0_costOfWaiting_32 : decode cX0_costOfWaiting 32 = .ok (.iconst 1, 1) := by decide +kernel
theorem dX0_costOfWaiting_33 : decode cX0_costOfWaiting 33 = .ok (.isub, 1) := by decide +kernel
theorem dX0_costOfWaiting_34 : decode cX0_costOfWaiting 34 = .ok (.iload 4, 2) := by decide +kernel
theorem dX0_costOfWaiting_36 : decode cX0_costOfWaiting 36 = .ok (.isub, 1) := by decide +kernel
theorem dX0_costOfWaiting_37 : decode cX0_costOfWaiting 37 = .ok (.invokevirtual 140, 3) := by decide +kernel
theorem dX0_costOfWaiting_40 : decode cX0_costOfWaiting 40 = .ok (.iload_n 3, 1) := by decide +kernel
theorem dX0_costOfWaiting_41 : decode cX0_costOfWaiting 41 = .ok (.invokevirtual 143, 3) := by decide +kernel
theorem dX0_costOfWaiting_44 : decode cX0_costOfWaiting 44 = .ok (.istore_n 3, 1) := by decide +kernel
theorem dX0_costOfWaiting_45 : decode cX0_costOfWaiting 45 = .ok (.iinc 4 (-1), 3) := by decide +kernel
theorem dX0_costOfWaiting_48 : decode cX0_costOfWaiting 48 = .ok (.goto (-29), 3) := by decide +kernel
theorem dX0_costOfWaiting_51 : decode cX0_costOfWaiting 51 = .ok (.iload_n 3, 1) := by decide +kernel
theorem dX0_costOfWaiting_52 : decode cX0_costOfWaiting 52 = .ok (.ireturn, 1) := by decide +kernel
theorem dX0_drawLeak_0 : decode cX0_drawLeak 0 = .ok (.iload_n 1, 1) := by decide +kernel
theorem dX0_drawLeak_1 : decode cX0_drawLeak 1 = .ok (.i2l, 1) := by decide +kernel
theorem dX0_drawLeak_2 : decode cX0_drawLeak 2 = .ok (.lstore_n 2, 1) := by decide +kernel
theorem dX0_drawLeak_3 : decode cX0_drawLeak 3 = .ok (.iconst 1, 1) := by decide +kernel
theorem dX0_drawLeak_4 : decode cX0_drawLeak 4 = .ok (.istore 4, 2) := by decide +kernel
theorem dX0_drawLeak_6 : decode cX0_drawLeak 6 = .ok (.iload 4, 2) := by decide +kernel
theorem dX0_drawLeak_8 : decode cX0_drawLeak 8 = .ok (.aload_n 0, 1) := by decide +kernel
theorem dX0_drawLeak_9 : decode cX0_drawLeak 9 = .ok (.getfield 53, 3) := by decide +kernel
theorem dX0_drawLeak_12 : decode cX0_drawLeak 12 = .ok (.if_icmp .ge 44, 3) := by decide +kernel
theorem dX0_drawLeak_15 : decode cX0_drawLeak 15 = .ok (.ldc2_w 158, 3) := by decide +kernel
theorem dX0_drawLeak_18 : decode cX0_drawLeak 18 = .ok (.lload_n 2, 1) := by decide +kernel
theorem dX0_drawLeak_19 : decode cX0_drawLeak 19 = .ok (.lmul, 1) := by decide +kernel
theorem dX0_drawLeak_20 : decode cX0_drawLeak 20 = .ok (.ldc2_w 160, 3) := by decide +kernel
theorem dX0_drawLeak_23 : decode cX0_drawLeak 23 = .ok (.ladd, 1) := by decide +kernel
theorem dX0_drawLeak_24 : decode cX0_drawLeak 24 = .ok (.ldc2_w 162, 3) := by decide +kernel
theorem dX0_drawLeak_27 : decode cX0_drawLeak 27 = .ok (.lrem, 1) := by decide +kernel
theorem dX0_drawLeak_28 : decode cX0_drawLeak 28 = .ok (.lstore_n 2, 1) := by decide +kernel
theorem dX0_drawLeak_29 : decode cX0_drawLeak 29 = .ok (.lload_n 2, 1) := by decide +kernel
theorem dX0_drawLeak_30 : decode cX0_drawLeak 30 = .ok (.ldc2_w 164, 3) := by decide +kernel
theorem dX0_drawLeak_33 : decode cX0_drawLeak 33 = .ok (.ldiv, 1) := by decide +kernel
theorem dX0_drawLeak_34 : decode cX0_drawLeak 34 = .ok (.ldc2_w 166, 3) := by decide +kernel
theorem dX0_drawLeak_37 : decode cX0_drawLeak 37 = .ok (.lrem, 1) := by decide +kernel
theorem dX0_drawLeak_38 : decode cX0_drawLeak 38 = .ok (.aload_n 0, 1) := by decide +kernel
theorem dX0_drawLeak_39 : decode cX0_drawLeak 39 = .ok (.getfield 59, 3) := by decide +kernel
theorem dX0_drawLeak_42 : decode cX0_drawLeak 42 = .ok (.i2l, 1) := by decide +kernel
theorem dX0_drawLeak_43 : decode cX0_drawLeak 43 = .ok (.lcmp, 1) := by decide +kernel
theorem dX0_drawLeak_44 : decode cX0_drawLeak 44 = .ok (.ifCond .ge 6, 3) := by decide +kernel
theorem dX0_drawLeak_47 : decode cX0_drawLeak 47 = .ok (.iload 4, 2) := by decide +kernel
theorem dX0_drawLeak_49 : decode cX0_drawLeak 49 = .ok (.ireturn, 1) := by decide +kernel
theorem dX0_drawLeak_50 : decode cX0_drawLeak 50 = .ok (.iinc 4 1, 3) := by decide +kernel
theorem dX0_drawLeak_53 : decode cX0_drawLeak 53 = .ok (.goto (-47), 3) := by decide +kernel
theorem dX0_drawLeak_56 : decode cX0_drawLeak 56 = .ok (.iconst (-1), 1) := by decide +kernel
theorem dX0_drawLeak_57 : decode cX0_drawLeak 57 = .ok (.ireturn, 1) := by decide +kernel
theorem dX0_hurtAtOnce_0 : decode cX0_hurtAtOnce 0 = .ok (.aload_n 0, 1) := by decide +kernel
theorem dX0_hurtAtOnce_1 : decode cX0_hurtAtOnce 1 = .ok (.iload_n 1, 1) := by decide +kernel
theorem dX0_hurtAtOnce_2 : decode cX0_hurtAtOnce 2 = .ok (.aload_n 0, 1) := by decide +kernel
theorem dX0_hurtAtOnce_3 : decode cX0_hurtAtOnce 3 = .ok (.invokevirtual 100, 3) := by decide +kernel
theorem dX0_hurtAtOnce_6 : decode cX0_hurtAtOnce 6 = .ok (.aload_n 0, 1) := by decide +kernel
theorem dX0_hurtAtOnce_7 : decode cX0_hurtAtOnce 7 = .ok (.invokevirtual 128, 3) := by decide +kernel
theorem dX0_hurtAtOnce_10 : decode cX0_hurtAtOnce 10 = .ok (.invokevirtual 131, 3) := by decide +kernel
theorem dX0_hurtAtOnce_13 : decode cX0_hurtAtOnce 13 = .ok (.ireturn, 1) := by decide +kernel
theorem dX0_hurtBetween_0 : decode cX0_hurtBetween 0 = .ok (.aload_n 0, 1) := by decide +kernel
theorem dX0_hurtBetween_1 : decode cX0_hurtBetween 1 = .ok (.iload_n 1, 1) := by decide +kernel
theorem dX0_hurtBetween_2 : decode cX0_hurtBetween 2 = .ok (.iload_n 3, 1) := by decide +kernel
theorem dX0_hurtBetween_3 : decode cX0_hurtBetween 3 = .ok (.invokevirtual 120, 3) := by decide +kernel
theorem dX0_hurtBetween_6 : decode cX0_hurtBetween 6 = .ok (.aload_n 0, 1) := by decide +kernel
theorem dX0_hurtBetween_7 : decode cX0_hurtBetween 7 = .ok (.iload_n 1, 1) := by decide +kernel
theorem dX0_hurtBetween_8 : decode cX0_hurtBetween 8 = .ok (.iload_n 2, 1) := by decide +kernel
theorem dX0_hurtBetween_9 : decode cX0_hurtBetween 9 = .ok (.invokevirtual 120, 3) := by decide +kernel
theorem dX0_hurtBetween_12 : decode cX0_hurtBetween 12 = .ok (.isub, 1) := by decide +kernel
theorem dX0_hurtBetween_13 : decode cX0_hurtBetween 13 = .ok (.invokestatic 123, 3) := by decide +kernel
theorem dX0_hurtBetween_16 : decode cX0_hurtBetween 16 = .ok (.ireturn, 1) := by decide +kernel
theorem dX0_inTheMean_0 : decode cX0_inTheMean 0 = .ok (.aload_n 0, 1) := by decide +kernel
theorem dX0_inTheMean_1 : decode cX0_inTheMean 1 = .ok (.getfield 59, 3) := by decide +kernel
theorem dX0_inTheMean_4 : decode cX0_inTheMean 4 = .ok (.iload_n 1, 1) := by decide +kernel
theorem dX0_inTheMean_5 : decode cX0_inTheMean 5 = .ok (.imul, 1) := by decide +kernel
theorem dX0_inTheMean_6 : decode cX0_inTheMean 6 = .ok (.bipush 100, 2) := by decide +kernel
theorem dX0_inTheMean_8 : decode cX0_inTheMean 8 = .ok (.aload_n 0, 1) := by decide +kernel
theorem dX0_inTheMean_9 : decode cX0_inTheMean 9 = .ok (.getfield 59, 3) := by decide +kernel
theorem dX0_inTheMean_12 : decode cX0_inTheMean 12 = .ok (.isub, 1) := by decide +kernel
theorem dX0_inTheMean_13 : decode cX0_inTheMean 13 = .ok (.iload_n 2, 1) := by decide +kernel
theorem dX0_inTheMean_14 : decode cX0_inTheMean 14 = .ok (.imul, 1) := by decide +kernel
theorem dX0_inTheMean_15 : decode cX0_inTheMean 15 = .ok (.iadd, 1) := by decide +kernel
theorem dX0_inTheMean_16 : decode cX0_inTheMean 16 = .ok (.bipush 100, 2) := by decide +kernel
theorem dX0_inTheMean_18 : decode cX0_inTheMean 18 = .ok (.idiv, 1) := by decide +kernel
theorem dX0_inTheMean_19 : decode cX0_inTheMean 19 = .ok (.ireturn, 1) := by decide +kernel
theorem dX0_knowingAfter_0 : decode cX0_knowingAfter 0 = .ok (.iload_n 1, 1) := by decide +kernel
theorem dX0_knowingAfter_1 : decode cX0_knowingAfter 1 = .ok (.istore_n 3, 1) := by decide +kernel
theorem dX0_knowingAfter_2 : decode cX0_knowingAfter 2 = .ok (.iconst 0, 1) := by decide +kernel
theorem dX0_knowingAfter_3 : decode cX0_knowingAfter 3 = .ok (.istore 4, 2) := by decide +kernel
theorem dX0_knowingAfter_5 : decode cX0_knowingAfter 5 = .ok (.iload 4, 2) := by decide +kernel
theorem dX0_knowingAfter_7 : decode cX0_knowingAfter 7 = .ok (.iload_n 2, 1) := by decide +kernel
theorem dX0_knowingAfter_8 : decode cX0_knowingAfter 8 = .ok (.if_icmp .ge 61, 3) := by decide +kernel
theorem dX0_knowingAfter_11 : decode cX0_knowingAfter 11 = .ok (.iload 4, 2) := by decide +kernel
theorem dX0_knowingAfter_13 : decode cX0_knowingAfter 13 = .ok (.iconst 4, 1) := by decide +kernel
theorem dX0_knowingAfter_14 : decode cX0_knowingAfter 14 = .ok (.if_icmp .ge 55, 3) := by decide +kernel
theorem dX0_knowingAfter_17 : decode cX0_knowingAfter 17 = .ok (.iload_n 3, 1) := by decide +kernel
theorem dX0_knowingAfter_18 : decode cX0_knowingAfter 18 = .ok (.istore 5, 2) := by decide +kernel
theorem dX0_knowingAfter_20 : decode cX0_knowingAfter 20 = .ok (.iconst 0, 1) := by decide +kernel
theorem dX0_knowingAfter_21 : decode cX0_knowingAfter 21 = .ok (.istore 6, 2) := by decide +kernel
theorem dX0_knowingAfter_23 : decode cX0_knowingAfter 23 = .ok (.iload 6, 2) := by decide +kernel
theorem dX0_knowingAfter_25 : decode cX0_knowingAfter 25 = .ok (.aload_n 0, 1) := by decide +kernel
theorem dX0_knowingAfter_26 : decode cX0_knowingAfter 26 = .ok (.getfield 65, 3) := by decide +kernel
theorem dX0_knowingAfter_29 : decode cX0_knowingAfter 29 = .ok (.if_icmp .ge 31, 3) := by decide +kernel
theorem dX0_knowingAfter_32 : decode cX0_knowingAfter 32 = .ok (.iload_n 3, 1) := by decide +kernel
theorem dX0_knowingAfter_33 : decode cX0_knowingAfter 33 = .ok (.iload 6, 2) := by decide +kernel
theorem dX0_knowingAfter_35 : decode cX0_knowingAfter 35 = .ok (.ishr, 1) := by decide +kernel
theorem dX0_knowingAfter_36 : decode cX0_knowingAfter 36 = .ok (.iconst 1, 1) := by decide +kernel
theorem dX0_knowingAfter_37 : decode cX0_knowingAfter 37 = .ok (.iand, 1) := by decide +kernel
theorem dX0_knowingAfter_38 : decode cX0_knowingAfter 38 = .ok (.iconst 1, 1) := by decide +kernel
theorem dX0_knowingAfter_39 : decode cX0_knowingAfter 39 = .ok (.if_icmp .ne 15, 3) := by decide +kernel
theorem dX0_knowingAfter_42 : decode cX0_knowingAfter 42 = .ok (.iload 5, 2) := by decide +kernel
theorem dX0_knowingAfter_44 : decode cX0_knowingAfter 44 = .ok (.aload_n 0, 1) := by decide +kernel
theorem dX0_knowingAfter_45 : decode cX0_knowingAfter 45 = .ok (.getfield 21, 3) := by decide +kernel
theorem dX0_knowingAfter_48 : decode cX0_knowingAfter 48 = .ok (.iload 6, 2) := by decide +kernel
theorem dX0_knowingAfter_50 : decode cX0_knowingAfter 50 = .ok (.iaload, 1) := by decide +kernel
theorem dX0_knowingAfter_51 : decode cX0_knowingAfter 51 = .ok (.ior, 1) := by decide +kernel
theorem dX0_knowingAfter_52 : decode cX0_knowingAfter 52 = .ok (.istore 5, 2) := by decide +kernel
theorem dX0_knowingAfter_54 : decode cX0_knowingAfter 54 = .ok (.iinc 6 1, 3) := by decide +kernel
theorem dX0_knowingAfter_57 : decode cX0_knowingAfter 57 = .ok (.goto (-34), 3) := by decide +kernel
theorem dX0_knowingAfter_60 : decode cX0_knowingAfter 60 = .ok (.iload 5, 2) := by decide +kernel
theorem dX0_knowingAfter_62 : decode cX0_knowingAfter 62 = .ok (.istore_n 3, 1) := by decide +kernel
theorem dX0_knowingAfter_63 : decode cX0_knowingAfter 63 = .ok (.iinc 4 1, 3) := by decide +kernel
theorem dX0_knowingAfter_66 : decode cX0_knowingAfter 66 = .ok (.goto (-61), 3) := by decide +kernel
theorem dX0_knowingAfter_69 : decode cX0_knowingAfter 69 = .ok (.iload_n 3, 1) := by decide +kernel
theorem dX0_knowingAfter_70 : decode cX0_knowingAfter 70 = .ok (.ireturn, 1) := by decide +kernel
theorem dX0_leftOf_0 : decode cX0_leftOf 0 = .ok (.iload_n 1, 1) := by decide +kernel
theorem dX0_leftOf_1 : decode cX0_leftOf 1 = .ok (.iconst 0, 1) := by decide +kernel
theorem dX0_leftOf_2 : decode cX0_leftOf 2 = .ok (.bipush 100, 2) := by decide +kernel
theorem dX0_leftOf_4 : decode cX0_leftOf 4 = .ok (.aload_n 0, 1) := by decide +kernel
theorem dX0_leftOf_5 : decode cX0_leftOf 5 = .ok (.getfield 56, 3) := by decide +kernel
theorem dX0_leftOf_8 : decode cX0_leftOf 8 = .ok (.iload_n 2, 1) := by decide +kernel
theorem dX0_leftOf_9 : decode cX0_leftOf 9 = .ok (.imul, 1) := by decide +kernel
theorem dX0_leftOf_10 : decode cX0_leftOf 10 = .ok (.isub, 1) := by decide +kernel
theorem dX0_leftOf_11 : decode cX0_leftOf 11 = .ok (.invokestatic 135, 3) := by decide +kernel
theorem dX0_leftOf_14 : decode cX0_leftOf 14 = .ok (.imul, 1) := by decide +kernel
theorem dX0_leftOf_15 : decode cX0_leftOf 15 = .ok (.bipush 100, 2) := by decide +kernel
theorem dX0_leftOf_17 : decode cX0_leftOf 17 = .ok (.idiv, 1) := by decide +kernel
theorem dX0_leftOf_18 : decode cX0_leftOf 18 = .ok (.ireturn, 1) := by decide +kernel
theorem dX0_plansWith_0 : decode cX0_plansWith 0 = .ok (.iconst 0, 1) := by decide +kernel
theorem dX0_plansWith_1 : decode cX0_plansWith 1 = .ok (.istore 4, 2) := by decide +kernel
theorem dX0_plansWith_3 : decode cX0_plansWith 3 = .ok (.iconst 0, 1) := by decide +kernel
theorem dX0_plansWith_4 : decode cX0_plansWith 4 = .ok (.istore 5, 2) := by decide +kernel
theorem dX0_plansWith_6 : decode cX0_plansWith 6 = .ok (.iload 5, 2) := by decide +kernel
theorem dX0_plansWith_8 : decode cX0_plansWith 8 = .ok (.aload_n 0, 1) := by decide +kernel
theorem dX0_plansWith_9 : decode cX0_plansWith 9 = .ok (.getfield 71, 3) := by decide +kernel
theorem dX0_plansWith_12 : decode cX0_plansWith 12 = .ok (.if_icmp .ge 39, 3) := by decide +kernel
theorem dX0_plansWith_15 : decode cX0_plansWith 15 = .ok (.iload_n 1, 1) := by decide +kernel
theorem dX0_plansWith_16 : decode cX0_plansWith 16 = .ok (.iload 5, 2) := by decide +kernel
theorem dX0_plansWith_18 : decode cX0_plansWith 18 = .ok (.ishr, 1) := by decide +kernel
theorem dX0_plansWith_19 : decode cX0_plansWith 19 = .ok (.iconst 1, 1) := by decide +kernel
theorem dX0_plansWith_20 : decode cX0_plansWith 20 = .ok (.iand, 1) := by decide +kernel
theorem dX0_plansWith_21 : decode cX0_plansWith 21 = .ok (.iconst 1, 1) := by decide +kernel
theorem dX0_plansWith_22 : decode cX0_plansWith 22 = .ok (.if_icmp .ne 23, 3) := by decide +kernel
theorem dX0_plansWith_25 : decode cX0_plansWith 25 = .ok (.aload_n 0, 1) := by decide +kernel
theorem dX0_plansWith_26 : decode cX0_plansWith 26 = .ok (.iload 5, 2) := by decide +kernel
theorem dX0_plansWith_28 : decode cX0_plansWith 28 = .ok (.iload_n 2, 1) := by decide +kernel
theorem dX0_plansWith_29 : decode cX0_plansWith 29 = .ok (.invokevirtual 146, 3) := by decide +kernel
theorem dX0_plansWith_32 : decode cX0_plansWith 32 = .ok (.iload_n 3, 1) := by decide +kernel
theorem dX0_plansWith_33 : decode cX0_plansWith 33 = .ok (.if_icmp .ne 12, 3) := by decide +kernel
theorem dX0_plansWith_36 : decode cX0_plansWith 36 = .ok (.iload 4, 2) := by decide +kernel
theorem dX0_plansWith_38 : decode cX0_plansWith 38 = .ok (.iconst 1, 1) := by decide +kernel
theorem dX0_plansWith_39 : decode cX0_plansWith 39 = .ok (.iload 5, 2) := by decide +kernel
theorem dX0_plansWith_41 : decode cX0_plansWith 41 = .ok (.ishl, 1) := by decide +kernel
theorem dX0_plansWith_42 : decode cX0_plansWith 42 = .ok (.ior, 1) := by decide +kernel
theorem dX0_plansWith_43 : decode cX0_plansWith 43 = .ok (.istore 4, 2) := by decide +kernel
theorem dX0_plansWith_45 : decode cX0_plansWith 45 = .ok (.iinc 5 1, 3) := by decide +kernel
theorem dX0_plansWith_48 : decode cX0_plansWith 48 = .ok (.goto (-42), 3) := by decide +kernel
theorem dX0_plansWith_51 : decode cX0_plansWith 51 = .ok (.iload 4, 2) := by decide +kernel
theorem dX0_plansWith_53 : decode cX0_plansWith 53 = .ok (.ireturn, 1) := by decide +kernel
theorem dX0_sharpest_0 : decode cX0_sharpest 0 = .ok (.aload_n 0, 1) := by decide +kernel
theorem dX0_sharpest_1 : decode cX0_sharpest 1 = .ok (.invokevirtual 100, 3) := by decide +kernel
theorem dX0_sharpest_4 : decode cX0_sharpest 4 = .ok (.istore_n 2, 1) := by decide +kernel
theorem dX0_sharpest_5 : decode cX0_sharpest 5 = .ok (.iconst 0, 1) := by decide +kernel
theorem dX0_sharpest_6 : decode cX0_sharpest 6 = .ok (.istore_n 3, 1) := by decide +kernel
theorem dX0_sharpest_7 : decode cX0_sharpest 7 = .ok (.iload_n 3, 1) := by decide +kernel
theorem dX0_sharpest_8 : decode cX0_sharpest 8 = .ok (.aload_n 0, 1) := by decide +kernel
theorem dX0_sharpest_9 : decode cX0_sharpest 9 = .ok (.getfield 68, 3) := by decide +kernel
theorem dX0_sharpest_12 : decode cX0_sharpest 12 = .ok (.if_icmp .ge 32, 3) := by decide +kernel
theorem dX0_sharpest_15 : decode cX0_sharpest 15 = .ok (.aload_n 0, 1) := by decide +kernel
theorem dX0_sharpest_16 : decode cX0_sharpest 16 = .ok (.getfield 27, 3) := by decide +kernel
theorem dX0_sharpest_19 : decode cX0_sharpest 19 = .ok (.iload_n 3, 1) := by decide +kernel
theorem dX0_sharpest_20 : decode cX0_sharpest 20 = .ok (.iaload, 1) := by decide +kernel
theorem dX0_sharpest_21 : decode cX0_sharpest 21 = .ok (.iload_n 1, 1) := by decide +kernel
theorem dX0_sharpest_22 : decode cX0_sharpest 22 = .ok (.ishr, 1) := by decide +kernel
theorem dX0_sharpest_23 : decode cX0_sharpest 23 = .ok (.iconst 1, 1) := by decide +kernel
theorem dX0_sharpest_24 : decode cX0_sharpest 24 = .ok (.iand, 1) := by decide +kernel
theorem dX0_sharpest_25 : decode cX0_sharpest 25 = .ok (.iconst 1, 1) := by decide +kernel
theorem dX0_sharpest_26 : decode cX0_sharpest 26 = .ok (.if_icmp .ne 12, 3) := by decide +kernel
theorem dX0_sharpest_29 : decode cX0_sharpest 29 = .ok (.iload_n 2, 1) := by decide +kernel
theorem dX0_sharpest_30 : decode cX0_sharpest 30 = .ok (.aload_n 0, 1) := by decide +kernel
theorem dX0_sharpest_31 : decode cX0_sharpest 31 = .ok (.getfield 27, 3) := by decide +kernel
theorem dX0_sharpest_34 : decode cX0_sharpest 34 = .ok (.iload_n 3, 1) := by decide +kernel
theorem dX0_sharpest_35 : decode cX0_sharpest 35 = .ok (.iaload, 1) := by decide +kernel
theorem dX0_sharpest_36 : decode cX0_sharpest 36 = .ok (.iand, 1) := by decide +kernel
theorem dX0_sharpest_37 : decode cX0_sharpest 37 = .ok (.istore_n 2, 1) := by decide +kernel
theorem dX0_sharpest_38 : decode cX0_sharpest 38 = .ok (.iinc 3 1, 3) := by decide +kernel
theorem dX0_sharpest_41 : decode cX0_sharpest 41 = .ok (.goto (-34), 3) := by decide +kernel
theorem dX0_sharpest_44 : decode cX0_sharpest 44 = .ok (.iload_n 2, 1) := by decide +kernel
theorem dX0_sharpest_45 : decode cX0_sharpest 45 = .ok (.ireturn, 1) := by decide +kernel
theorem dX0_valueAt_0 : decode cX0_valueAt 0 = .ok (.iload_n 1, 1) := by decide +kernel
theorem dX0_valueAt_1 : decode cX0_valueAt 1 = .ok (.ifCond .ne 10, 3) := by decide +kernel
theorem dX0_valueAt_4 : decode cX0_valueAt 4 = .ok (.aload_n 0, 1) := by decide +kernel
theorem dX0_valueAt_5 : decode cX0_valueAt 5 = .ok (.getfield 9, 3) := by decide +kernel
theorem dX0_valueAt_8 : decode cX0_valueAt 8 = .ok (.iload_n 2, 1) := by decide +kernel
theorem dX0_valueAt_9 : decode cX0_valueAt 9 = .ok (.iaload, 1) := by decide +kernel
theorem dX0_valueAt_10 : decode cX0_valueAt 10 = .ok (.ireturn, 1) := by decide +kernel
theorem dX0_valueAt_11 : decode cX0_valueAt 11 = .ok (.iload_n 1, 1) := by decide +kernel
theorem dX0_valueAt_12 : decode cX0_valueAt 12 = .ok (.iconst 2, 1) := by decide +kernel
theorem dX0_valueAt_13 : decode cX0_valueAt 13 = .ok (.if_icmp .ne 12, 3) := by decide +kernel
theorem dX0_valueAt_16 : decode cX0_valueAt 16 = .ok (.aload_n 0, 1) := by decide +kernel
theorem dX0_valueAt_17 : decode cX0_valueAt 17 = .ok (.getfield 15, 3) := by decide +kernel
theorem dX0_valueAt_20 : decode cX0_valueAt 20 = .ok (.iload_n 2, 1) := by decide +kernel
theorem dX0_valueAt_21 : decode cX0_valueAt 21 = .ok (.iaload, 1) := by decide +kernel
theorem dX0_valueAt_22 : decode cX0_valueAt 22 = .ok (.goto 7, 3) := by decide +kernel
theorem dX0_valueAt_25 : decode cX0_valueAt 25 = .ok (.aload_n 0, 1) := by decide +kernel
theorem dX0_valueAt_26 : decode cX0_valueAt 26 = .ok (.getfield 50, 3) := by decide +kernel
theorem dX0_valueAt_29 : decode cX0_valueAt 29 = .ok (.ireturn, 1) := by decide +kernel
theorem dX4_hurtOf_0 : decode cX4_hurtOf 0 = .ok (.iload_n 0, 1) := by decide +kernel
theorem dX4_hurtOf_1 : decode cX4_hurtOf 1 = .ok (.ifCond .le 12, 3) := by decide +kernel
theorem dX4_hurtOf_4 : decode cX4_hurtOf 4 = .ok (.iload_n 0, 1) := by decide +kernel
theorem dX4_hurtOf_5 : decode cX4_hurtOf 5 = .ok (.iload_n 0, 1) := by decide +kernel
theorem dX4_hurtOf_6 : decode cX4_hurtOf 6 = .ok (.imul, 1) := by decide +kernel
theorem dX4_hurtOf_7 : decode cX4_hurtOf 7 = .ok (.bipush 100, 2) := by decide +kernel
theorem dX4_hurtOf_9 : decode cX4_hurtOf 9 = .ok (.idiv, 1) := by decide +kernel
theorem dX4_hurtOf_10 : decode cX4_hurtOf 10 = .ok (.goto 4, 3) := by decide +kernel
theorem dX4_hurtOf_13 : decode cX4_hurtOf 13 = .ok (.iconst 0, 1) := by decide +kernel
theorem dX4_hurtOf_14 : decode cX4_hurtOf 14 = .ok (.ireturn, 1) := by decide +kernel
