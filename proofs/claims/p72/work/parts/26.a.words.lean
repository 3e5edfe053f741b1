theorem b_526 : Cond.methodLinkNest RX11 299 yX10_reckon RX11 ∈ nests := ne (tin_5 _ (List.mem_of_getElem? (i := 126) rfl)) rfl
theorem b_527 : Cond.fieldLinkNest RX11 302 "GentleLetters$Week" "fitting" "I" RX11 ∈ nests := ne (tin_2 _ (List.mem_of_getElem? (i := 8) rfl)) rfl
theorem b_528 : Cond.methodLink RX11 305 yX11_reckonWeek ∈ BIG := bi (tin_5 _ (List.mem_of_getElem? (i := 144) rfl)) rfl
theorem b_529 : Cond.fieldLinkNest RX11 308 "GentleLetters$Week" "knowingDay" "I" RX11 ∈ nests := ne (tin_2 _ (List.mem_of_getElem? (i := 10) rfl)) rfl
theorem b_530 : Cond.fieldLinkNest RX11 311 "GentleLetters$Week" "knowingPlan" "I" RX11 ∈ nests := ne (tin_2 _ (List.mem_of_getElem? (i := 12) rfl)) rfl
theorem b_531 : Cond.methodLinkNest RX11 317 yX10_overrule RX11 ∈ nests := ne (tin_5 _ (List.mem_of_getElem? (i := 157) rfl)) rfl
theorem b_532 : Cond.methodLinkNest RX11 377 yX10_fillDays RX11 ∈ nests := ne (tin_6 _ (List.mem_of_getElem? (i := 43) rfl)) rfl
theorem b_533 : Cond.fieldLinkNest RX11 223 "GentleLetters$Week" "bestOrder" "[I" RX11 ∈ nests := ne (tin_2 _ (List.mem_of_getElem? (i := 2) rfl)) rfl
theorem b_534 : Cond.code yX11_reckonWeek cX11_reckonWeek 4 (some .int) ∈ BIG := bi (tin_5 _ (List.mem_of_getElem? (i := 147) rfl)) rfl
theorem b_535 : Cond.instanceMethod yX11_reckonWeek ∈ BIG := bi (tin_5 _ (List.mem_of_getElem? (i := 146) rfl)) rfl
theorem b_536 : Cond.selects RX11 yX11_reckonWeek yX11_reckonWeek ∈ BIG := bi (sin_6 _ (List.mem_map.mpr ⟨(yX11_reckonWeek, 11), List.mem_of_getElem? (i := 1) rfl, rfl⟩)) rfl
theorem b_537 : Cond.code yX10_fillDays cX10_fillDays 4 none ∈ BIG := bi (tin_6 _ (List.mem_of_getElem? (i := 46) rfl)) rfl
theorem b_538 : Cond.instanceMethod yX10_fillDays ∈ BIG := bi (tin_6 _ (List.mem_of_getElem? (i := 45) rfl)) rfl
theorem b_539 : Cond.selects RX10 yX10_fillDays yX10_fillDays ∈ BIG := bi (sin_7 _ (List.mem_map.mpr ⟨(yX10_fillDays, 10), List.mem_of_getElem? (i := 0) rfl, rfl⟩)) rfl
theorem b_540 : Cond.code yX10_overrule cX10_overrule 4 none ∈ BIG := bi (tin_5 _ (List.mem_of_getElem? (i := 160) rfl)) rfl
theorem b_541 : Cond.instanceMethod yX10_overrule ∈ BIG := bi (tin_5 _ (List.mem_of_getElem? (i := 159) rfl)) rfl
theorem b_542 : Cond.selects RX10 yX10_overrule yX10_overrule ∈ BIG := bi (sin_6 _ (List.mem_map.mpr ⟨(yX10_overrule, 10), List.mem_of_getElem? (i := 3) rfl, rfl⟩)) rfl
theorem b_543 : Cond.code yX10_reckon cX10_reckon 6 none ∈ BIG := bi (tin_5 _ (List.mem_of_getElem? (i := 129) rfl)) rfl
theorem b_544 : Cond.instanceMethod yX10_reckon ∈ BIG := bi (tin_5 _ (List.mem_of_getElem? (i := 128) rfl)) rfl
theorem b_545 : Cond.selects RX10 yX10_reckon yX10_reckon ∈ BIG := bi (sin_5 _ (List.mem_map.mpr ⟨(yX10_reckon, 10), List.mem_of_getElem? (i := 15) rfl, rfl⟩)) rfl
theorem m_yX11_reckonWeek : MV yX11_reckonWeek cX11_reckonWeek 4 (some .int) 2 := ⟨b_534, b_535, b_536, b_332, by decide +kernel⟩
theorem m_yX10_fillDays : MV yX10_fillDays cX10_fillDays 4 none 1 := ⟨b_537, b_538, b_539, b_243, by decide +kernel⟩
theorem m_yX10_overrule : MV yX10_overrule cX10_overrule 4 none 2 := ⟨b_540, b_541, b_542, b_243, by decide +kernel⟩
theorem m_yX10_reckon : MV yX10_reckon cX10_reckon 6 none 2 := ⟨b_543, b_544, b_545, b_243, by decide +kernel⟩
theorem dX11_drawn_0 : decode cX11_drawn 0 = .ok (.iload_n 1, 1) := by decide +kernel
theorem dX11_drawn_1 : decode cX11_drawn 1 = .ok (.invokestatic 371, 3) := by decide +kernel
theorem dX11_drawn_4 : decode cX11_drawn 4 = .ok (.ifCond .eq 25, 3) := by decide +kernel
theorem dX11_drawn_7 : decode cX11_drawn 7 = .ok (.aload_n 0, 1) := by decide +kernel
theorem dX11_drawn_8 : decode cX11_drawn 8 = .ok (.getfield 19, 3) := by decide +kernel
theorem dX11_drawn_11 : decode cX11_drawn 11 = .ok (.iload_n 3, 1) := by decide +kernel
theorem dX11_drawn_12 : decode cX11_drawn 12 = .ok (.invokevirtual 122, 3) := by decide +kernel
theorem dX11_drawn_15 : decode cX11_drawn 15 = .ok (.ifCond .eq 14, 3) := by decide +kernel
theorem dX11_drawn_18 : decode cX11_drawn 18 = .ok (.iload 4, 2) := by decide +kernel
theorem dX11_drawn_20 : decode cX11_drawn 20 = .ok (.ifCond .lt 9, 3) := by decide +kernel
theorem dX11_drawn_23 : decode cX11_drawn 23 = .ok (.iload 4, 2) := by decide +kernel
theorem dX11_drawn_25 : decode cX11_drawn 25 = .ok (.iconst 1, 1) := by decide +kernel
theorem dX11_drawn_26 : decode cX11_drawn 26 = .ok (.if_icmp .le 6, 3) := by decide +kernel
theorem dX11_drawn_29 : decode cX11_drawn 29 = .ok (.bipush (-2), 2) := by decide +kernel
theorem dX11_drawn_31 : decode cX11_drawn 31 = .ok (.ireturn, 1) := by decide +kernel
theorem dX11_drawn_32 : decode cX11_drawn 32 = .ok (.aload_n 0, 1) := by decide +kernel
theorem dX11_drawn_33 : decode cX11_drawn 33 = .ok (.iload_n 2, 1) := by decide +kernel
theorem dX11_drawn_34 : decode cX11_drawn 34 = .ok (.invokevirtual 183, 3) := by decide +kernel
theorem dX11_drawn_37 : decode cX11_drawn 37 = .ok (.istore 5, 2) := by decide +kernel
theorem dX11_drawn_39 : decode cX11_drawn 39 = .ok (.iload 5, 2) := by decide +kernel
theorem dX11_drawn_41 : decode cX11_drawn 41 = .ok (.ifCond .ge 6, 3) := by decide +kernel
theorem dX11_drawn_44 : decode cX11_drawn 44 = .ok (.iload 5, 2) := by decide +kernel
theorem dX11_drawn_46 : decode cX11_drawn 46 = .ok (.ireturn, 1) := by decide +kernel
theorem dX11_drawn_47 : decode cX11_drawn 47 = .ok (.aload_n 0, 1) := by decide +kernel
theorem dX11_drawn_48 : decode cX11_drawn 48 = .ok (.getfield 19, 3) := by decide +kernel
theorem dX11_drawn_51 : decode cX11_drawn 51 = .ok (.iload_n 1, 1) := by decide +kernel
theorem dX11_drawn_52 : decode cX11_drawn 52 = .ok (.invokevirtual 374, 3) := by decide +kernel
theorem dX11_drawn_55 : decode cX11_drawn 55 = .ok (.istore 6, 2) := by decide +kernel
theorem dX11_drawn_57 : decode cX11_drawn 57 = .ok (.iload 4, 2) := by decide +kernel
theorem dX11_drawn_59 : decode cX11_drawn 59 = .ok (.ifCond .ne 6, 3) := by decide +kernel
theorem dX11_drawn_62 : decode cX11_drawn 62 = .ok (.iload 6, 2) := by decide +kernel
theorem dX11_drawn_64 : decode cX11_drawn 64 = .ok (.ireturn, 1) := by decide +kernel
theorem dX11_drawn_65 : decode cX11_drawn 65 = .ok (.aload_n 0, 1) := by decide +kernel
theorem dX11_drawn_66 : decode cX11_drawn 66 = .ok (.getfield 40, 3) := by decide +kernel
theorem dX11_drawn_69 : decode cX11_drawn 69 = .ok (.aload_n 0, 1) := by decide +kernel
theorem dX11_drawn_70 : decode cX11_drawn 70 = .ok (.getfield 19, 3) := by decide +kernel
theorem dX11_drawn_73 : decode cX11_drawn 73 = .ok (.invokevirtual 377, 3) := by decide +kernel
theorem dX11_drawn_76 : decode cX11_drawn 76 = .ok (.iload 6, 2) := by decide +kernel
theorem dX11_drawn_78 : decode cX11_drawn 78 = .ok (.iconst (-1), 1) := by decide +kernel
theorem dX11_drawn_79 : decode cX11_drawn 79 = .ok (.if_icmp .eq 19, 3) := by decide +kernel
theorem dX11_drawn_82 : decode cX11_drawn 82 = .ok (.aload_n 0, 1) := by decide +kernel
theorem dX11_drawn_83 : decode cX11_drawn 83 = .ok (.getfield 40, 3) := by decide +kernel
theorem dX11_drawn_86 : decode cX11_drawn 86 = .ok (.iload 6, 2) := by decide +kernel
theorem dX11_drawn_88 : decode cX11_drawn 88 = .ok (.aload_n 0, 1) := by decide +kernel
theorem dX11_drawn_89 : decode cX11_drawn 89 = .ok (.getfield 19, 3) := by decide +kernel
theorem dX11_drawn_92 : decode cX11_drawn 92 = .ok (.invokevirtual 210, 3) := by decide +kernel
theorem dX11_drawn_95 : decode cX11_drawn 95 = .ok (.invokevirtual 317, 3) := by decide +kernel
theorem dX11_drawn_98 : decode cX11_drawn 98 = .ok (.aload_n 0, 1) := by decide +kernel
theorem dX11_drawn_99 : decode cX11_drawn 99 = .ok (.getfield 40, 3) := by decide +kernel
theorem dX11_drawn_102 : decode cX11_drawn 102 = .ok (.aload_n 0, 1) := by decide +kernel
theorem dX11_drawn_103 : decode cX11_drawn 103 = .ok (.getfield 19, 3) := by decide +kernel
theorem dX11_drawn_106 : decode cX11_drawn 106 = .ok (.iload_n 3, 1) := by decide +kernel
theorem dX11_drawn_107 : decode cX11_drawn 107 = .ok (.invokevirtual 321, 3) := by decide +kernel
theorem dX11_drawn_110 : decode cX11_drawn 110 = .ok (.aload_n 0, 1) := by decide +kernel
theorem dX11_drawn_111 : decode cX11_drawn 111 = .ok (.getfield 40, 3) := by decide +kernel
theorem dX11_drawn_114 : decode cX11_drawn 114 = .ok (.invokevirtual 194, 3) := by decide +kernel
theorem dX11_drawn_117 : decode cX11_drawn 117 = .ok (.ireturn, 1) := by decide +kernel
theorem dX11_knew_0 : decode cX11_knew 0 = .ok (.aload_n 0, 1) := by decide +kernel
theorem dX11_knew_1 : decode cX11_knew 1 = .ok (.iload_n 1, 1) := by decide +kernel
theorem dX11_knew_2 : decode cX11_knew 2 = .ok (.iload_n 2, 1) := by decide +kernel
theorem dX11_knew_3 : decode cX11_knew 3 = .ok (.invokevirtual 305, 3) := by decide +kernel
theorem dX11_knew_6 : decode cX11_knew 6 = .ok (.istore_n 3, 1) := by decide +kernel
theorem dX11_knew_7 : decode cX11_knew 7 = .ok (.iload_n 3, 1) := by decide +kernel
theorem dX11_knew_8 : decode cX11_knew 8 = .ok (.ifCond .ge 7, 3) := by decide +kernel
theorem dX11_knew_11 : decode cX11_knew 11 = .ok (.iload_n 3, 1) := by decide +kernel
theorem dX11_knew_12 : decode cX11_knew 12 = .ok (.goto 10, 3) := by decide +kernel
theorem dX11_knew_15 : decode cX11_knew 15 = .ok (.aload_n 0, 1) := by decide +kernel
theorem dX11_knew_16 : decode cX11_knew 16 = .ok (.getfield 40, 3) := by decide +kernel
theorem dX11_knew_19 : decode cX11_knew 19 = .ok (.getfield 308, 3) := by decide +kernel
theorem dX11_knew_22 : decode cX11_knew 22 = .ok (.ireturn, 1) := by decide +kernel
theorem dX11_ordered_0 : decode cX11_ordered 0 = .ok (.aload_n 0, 1) := by decide +kernel
theorem dX11_ordered_1 : decode cX11_ordered 1 = .ok (.iload_n 1, 1) := by decide +kernel
theorem dX11_ordered_2 : decode cX11_ordered 2 = .ok (.iload_n 2, 1) := by decide +kernel
theorem dX11_ordered_3 : decode cX11_ordered 3 = .ok (.invokevirtual 216, 3) := by decide +kernel
theorem dX11_ordered_6 : decode cX11_ordered 6 = .ok (.istore 4, 2) := by decide +kernel
theorem dX11_ordered_8 : decode cX11_ordered 8 = .ok (.iload 4, 2) := by decide +kernel
theorem dX11_ordered_10 : decode cX11_ordered 10 = .ok (.ifCond .ge 6, 3) := by decide +kernel
theorem dX11_ordered_13 : decode cX11_ordered 13 = .ok (.iload 4, 2) := by decide +kernel
theorem dX11_ordered_15 : decode cX11_ordered 15 = .ok (.ireturn, 1) := by decide +kernel
theorem dX11_ordered_16 : decode cX11_ordered 16 = .ok (.iload_n 3, 1) := by decide +kernel
theorem dX11_ordered_17 : decode cX11_ordered 17 = .ok (.ifCond .lt 26, 3) := by decide +kernel
theorem dX11_ordered_20 : decode cX11_ordered 20 = .ok (.iload_n 3, 1) := by decide +kernel
theorem dX11_ordered_21 : decode cX11_ordered 21 = .ok (.aload_n 0, 1) := by decide +kernel
theorem dX11_ordered_22 : decode cX11_ordered 22 = .ok (.getfield 40, 3) := by decide +kernel
theorem dX11_ordered_25 : decode cX11_ordered 25 = .ok (.getfield 222, 3) := by decide +kernel
theorem dX11_ordered_28 : decode cX11_ordered 28 = .ok (.if_icmp .ge 15, 3) := by decide +kernel
theorem dX11_ordered_31 : decode cX11_ordered 31 = .ok (.aload_n 0, 1) := by decide +kernel
theorem dX11_ordered_32 : decode cX11_ordered 32 = .ok (.getfield 40, 3) := by decide +kernel
theorem dX11_ordered_35 : decode cX11_ordered 35 = .ok (.getfield 223, 3) := by decide +kernel
theorem dX11_ordered_38 : decode cX11_ordered 38 = .ok (.iload_n 3, 1) := by decide +kernel
theorem dX11_ordered_39 : decode cX11_ordered 39 = .ok (.iaload, 1) := by decide +kernel
theorem dX11_ordered_40 : decode cX11_ordered 40 = .ok (.goto 4, 3) := by decide +kernel
theorem dX11_ordered_43 : decode cX11_ordered 43 = .ok (.iconst (-1), 1) := by decide +kernel
theorem dX11_ordered_44 : decode cX11_ordered 44 = .ok (.ireturn, 1) := by decide +kernel
theorem dX11_reckonWeek_0 : decode cX11_reckonWeek 0 = .ok (.aload_n 0, 1) := by decide +kernel
theorem dX11_reckonWeek_1 : decode cX11_reckonWeek 1 = .ok (.getfield 19, 3) := by decide +kernel
theorem dX11_reckonWeek_4 : decode cX11_reckonWeek 4 = .ok (.iload_n 2, 1) := by decide +kernel
theorem dX11_reckonWeek_5 : decode cX11_reckonWeek 5 = .ok (.invokevirtual 122, 3) := by decide +kernel
theorem dX11_reckonWeek_8 : decode cX11_reckonWeek 8 = .ok (.ifCond .ne 6, 3) := by decide +kernel
theorem dX11_reckonWeek_11 : decode cX11_reckonWeek 11 = .ok (.bipush (-2), 2) := by decide +kernel
theorem dX11_reckonWeek_13 : decode cX11_reckonWeek 13 = .ok (.ireturn, 1) := by decide +kernel
theorem dX11_reckonWeek_14 : decode cX11_reckonWeek 14 = .ok (.aload_n 0, 1) := by decide +kernel
theorem dX11_reckonWeek_15 : decode cX11_reckonWeek 15 = .ok (.iload_n 1, 1) := by decide +kernel
theorem dX11_reckonWeek_16 : decode cX11_reckonWeek 16 = .ok (.invokevirtual 183, 3) := by decide +kernel
theorem dX11_reckonWeek_19 : decode cX11_reckonWeek 19 = .ok (.istore_n 3, 1) := by decide +kernel
theorem dX11_reckonWeek_20 : decode cX11_reckonWeek 20 = .ok (.iload_n 3, 1) := by decide +kernel
theorem dX11_reckonWeek_21 : decode cX11_reckonWeek 21 = .ok (.ifCond .ne 23, 3) := by decide +kernel
theorem dX11_reckonWeek_24 : decode cX11_reckonWeek 24 = .ok (.aload_n 0, 1) := by decide +kernel
theorem dX11_reckonWeek_25 : decode cX11_reckonWeek 25 = .ok (.getfield 40, 3) := by decide +kernel
theorem dX11_reckonWeek_28 : decode cX11_reckonWeek 28 = .ok (.aload_n 0, 1) := by decide +kernel
theorem dX11_reckonWeek_29 : decode cX11_reckonWeek 29 = .ok (.getfield 19, 3) := by decide +kernel
theorem dX11_reckonWeek_32 : decode cX11_reckonWeek 32 = .ok (.aload_n 0, 1) := by decide +kernel
theorem dX11_reckonWeek_33 : decode cX11_reckonWeek 33 = .ok (.getfield 19, 3) := by decide +kernel
theorem dX11_reckonWeek_36 : decode cX11_reckonWeek 36 = .ok (.getfield 125, 3) := by decide +kernel
theorem dX11_reckonWeek_39 : decode cX11_reckonWeek 39 = .ok (.iload_n 2, 1) := by decide +kernel
theorem dX11_reckonWeek_40 : decode cX11_reckonWeek 40 = .ok (.iaload, 1) := by decide +kernel
theorem dX11_reckonWeek_41 : decode cX11_reckonWeek 41 = .ok (.invokevirtual 299, 3) := by decide +kernel
theorem dX11_reckonWeek_44 : decode cX11_reckonWeek 44 = .ok (.iload_n 3, 1) := by decide +kernel
theorem dX11_reckonWeek_45 : decode cX11_reckonWeek 45 = .ok (.ireturn, 1) := by decide +kernel
theorem dX11_reckoned_0 : decode cX11_reckoned 0 = .ok (.aload_n 0, 1) := by decide +kernel
theorem dX11_reckoned_1 : decode cX11_reckoned 1 = .ok (.iload_n 1, 1) := by decide +kernel
theorem dX11_reckoned_2 : decode cX11_reckoned 2 = .ok (.iload_n 2, 1) := by decide +kernel
theorem dX11_reckoned_3 : decode cX11_reckoned 3 = .ok (.invokevirtual 305, 3) := by decide +kernel
theorem dX11_reckoned_6 : decode cX11_reckoned 6 = .ok (.istore_n 3, 1) := by decide +kernel
theorem dX11_reckoned_7 : decode cX11_reckoned 7 = .ok (.iload_n 3, 1) := by decide +kernel
theorem dX11_reckoned_8 : decode cX11_reckoned 8 = .ok (.ifCond .ge 5, 3) := by decide +kernel
theorem dX11_reckoned_11 : decode cX11_reckoned 11 = .ok (.iload_n 3, 1) := by decide +kernel
theorem dX11_reckoned_12 : decode cX11_reckoned 12 = .ok (.ireturn, 1) := by decide +kernel
theorem dX11_reckoned_13 : decode cX11_reckoned 13 = .ok (.aload_n 0, 1) := by decide +kernel
theorem dX11_reckoned_14 : decode cX11_reckoned 14 = .ok (.getfield 40, 3) := by decide +kernel
theorem dX11_reckoned_17 : decode cX11_reckoned 17 = .ok (.getfield 308, 3) := by decide +kernel
theorem dX11_reckoned_20 : decode cX11_reckoned 20 = .ok (.iconst (-1), 1) := by decide +kernel
theorem dX11_reckoned_21 : decode cX11_reckoned 21 = .ok (.if_icmp .eq 31, 3) := by decide +kernel
theorem dX11_reckoned_24 : decode cX11_reckoned 24 = .ok (.aload_n 0, 1) := by decide +kernel
theorem dX11_reckoned_25 : decode cX11_reckoned 25 = .ok (.getfield 40, 3) := by decide +kernel
theorem dX11_reckoned_28 : decode cX11_reckoned 28 = .ok (.aload_n 0, 1) := by decide +kernel
theorem dX11_reckoned_29 : decode cX11_reckoned 29 = .ok (.getfield 40, 3) := by decide +kernel
theorem dX11_reckoned_32 : decode cX11_reckoned 32 = .ok (.getfield 308, 3) := by decide +kernel
theorem dX11_reckoned_35 : decode cX11_reckoned 35 = .ok (.aload_n 0, 1) := by decide +kernel
theorem dX11_reckoned_36 : decode cX11_reckoned 36 = .ok (.getfield 19, 3) := by decide +kernel
theorem dX11_reckoned_39 : decode cX11_reckoned 39 = .ok (.aload_n 0, 1) := by decide +kernel
theorem dX11_reckoned_40 : decode cX11_reckoned 40 = .ok (.getfield 40, 3) := by decide +kernel
theorem dX11_reckoned_43 : decode cX11_reckoned 43 = .ok (.getfield 311, 3) := by decide +kernel
theorem dX11_reckoned_46 : decode cX11_reckoned 46 = .ok (.invokevirtual 314, 3) := by decide +kernel
theorem dX11_reckoned_49 : decode cX11_reckoned 49 = .ok (.invokevirtual 317, 3) := by decide +kernel
theorem dX11_reckoned_52 : decode cX11_reckoned 52 = .ok (.aload_n 0, 1) := by decide +kernel
theorem dX11_reckoned_53 : decode cX11_reckoned 53 = .ok (.getfield 40, 3) := by decide +kernel
theorem dX11_reckoned_56 : decode cX11_reckoned 56 = .ok (.aload_n 0, 1) := by decide +kernel
theorem dX11_reckoned_57 : decode cX11_reckoned 57 = .ok (.getfield 19, 3) := by decide +kernel
theorem dX11_reckoned_60 : decode cX11_reckoned 60 = .ok (.iload_n 2, 1) := by decide +kernel
theorem dX11_reckoned_61 : decode cX11_reckoned 61 = .ok (.invokevirtual 321, 3) := by decide +kernel
theorem dX11_reckoned_64 : decode cX11_reckoned 64 = .ok (.aload_n 0, 1) := by decide +kernel
theorem dX11_reckoned_65 : decode cX11_reckoned 65 = .ok (.getfield 40, 3) := by decide +kernel
theorem dX11_reckoned_68 : decode cX11_reckoned 68 = .ok (.invokevirtual 194, 3) := by decide +kernel
theorem dX11_reckoned_71 : decode cX11_reckoned 71 = .ok (.ireturn, 1) := by decide +kernel
theorem dX11_suspects_0 : decode cX11_suspects 0 = .ok (.aload_n 0, 1) := by decide +kernel
theorem dX11_suspects_1 : decode cX11_suspects 1 = .ok (.iload_n 1, 1) := by decide +kernel
theorem dX11_suspects_2 : decode cX11_suspects 2 = .ok (.invokevirtual 183, 3) := by decide +kernel
theorem dX11_suspects_5 : decode cX11_suspects 5 = .ok (.istore_n 2, 1) := by decide +kernel
theorem dX11_suspects_6 : decode cX11_suspects 6 = .ok (.iload_n 2, 1) := by decide +kernel
theorem dX11_suspects_7 : decode cX11_suspects 7 = .ok (.ifCond .ge 5, 3) := by decide +kernel
theorem dX11_suspects_10 : decode cX11_suspects 10 = .ok (.iload_n 2, 1) := by decide +kernel
theorem dX11_suspects_11 : decode cX11_suspects 11 = .ok (.ireturn, 1) := by decide +kernel
theorem dX11_suspects_12 : decode cX11_suspects 12 = .ok (.aload_n 0, 1) := by decide +kernel
theorem dX11_suspects_13 : decode cX11_suspects 13 = .ok (.getfield 40, 3) := by decide +kernel
theorem dX11_suspects_16 : decode cX11_suspects 16 = .ok (.aload_n 0, 1) := by decide +kernel
theorem dX11_suspects_17 : decode cX11_suspects 17 = .ok (.getfield 19, 3) := by decide +kernel
theorem dX11_suspects_20 : decode cX11_suspects 20 = .ok (.iconst 0, 1) := by decide +kernel
theorem dX11_suspects_21 : decode cX11_suspects 21 = .ok (.invokevirtual 299, 3) := by decide +kernel
theorem dX11_suspects_24 : decode cX11_suspects 24 = .ok (.aload_n 0, 1) := by decide +kernel
theorem dX11_suspects_25 : decode cX11_suspects 25 = .ok (.getfield 40, 3) := by decide +kernel
theorem dX11_suspects_28 : decode cX11_suspects 28 = .ok (.getfield 302, 3) := by decide +kernel
theorem dX11_suspects_31 : decode cX11_suspects 31 = .ok (.ireturn, 1) := by decide +kernel
