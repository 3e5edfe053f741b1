theorem b_929 : Cond.fieldLink RX12 55 "GentleLettersModel" "numbers" "[J" ∈ BIG := bi (tin_6 _ (List.mem_of_getElem? (i := 128) rfl)) rfl
theorem b_930 : Cond.methodLink RX12 292 yX12_numberAt ∈ BIG := bi (tin_7 _ (List.mem_of_getElem? (i := 220) rfl)) rfl
theorem b_931 : Cond.constantLong RX12 447 (3) ∈ BIG := bi (tin_7 _ (List.mem_of_getElem? (i := 219) rfl)) rfl
theorem b_932 : Cond.constantLong RX12 436 (2000000000) ∈ BIG := bi (tin_9 _ (List.mem_of_getElem? (i := 75) rfl)) rfl
theorem b_933 : Cond.methodLink RX12 296 yX12_isSlot ∈ BIG := bi (tin_7 _ (List.mem_of_getElem? (i := 216) rfl)) rfl
theorem b_934 : Cond.fieldLink RX12 49 "GentleLettersModel" "many" "[I" ∈ BIG := bi (tin_6 _ (List.mem_of_getElem? (i := 126) rfl)) rfl
theorem b_935 : Cond.code yX12_isSlot cX12_isSlot 1 (some .boolean) ∈ BIG := bi (tin_7 _ (List.mem_of_getElem? (i := 218) rfl)) rfl
theorem b_936 : Cond.static yX12_isSlot ∈ BIG := bi (tin_7 _ (List.mem_of_getElem? (i := 217) rfl)) rfl
theorem b_937 : Cond.code yX12_numberAt cX12_numberAt 3 (some .long) ∈ BIG := bi (tin_7 _ (List.mem_of_getElem? (i := 223) rfl)) rfl
theorem b_938 : Cond.instanceMethod yX12_numberAt ∈ BIG := bi (tin_7 _ (List.mem_of_getElem? (i := 222) rfl)) rfl
theorem b_939 : Cond.selects RX12 yX12_numberAt yX12_numberAt ∈ BIG := bi (sin_9 _ (List.mem_map.mpr ⟨(yX12_numberAt, 29), List.mem_of_getElem? (i := 11) rfl, rfl⟩)) rfl
theorem m_yX12_isSlot : MS yX12_isSlot cX12_isSlot 1 (some .boolean) 1 := ⟨b_935, b_936, b_810, by decide +kernel⟩
theorem m_yX12_numberAt : MV yX12_numberAt cX12_numberAt 3 (some .long) 2 := ⟨b_937, b_938, b_939, b_810, by decide +kernel⟩
theorem dX12_asksWeek_0 : decode cX12_asksWeek 0 = .ok (.iload_n 1, 1) := by decide +kernel
theorem dX12_asksWeek_1 : decode cX12_asksWeek 1 = .ok (.invokestatic 296, 3) := by decide +kernel
theorem dX12_asksWeek_4 : decode cX12_asksWeek 4 = .ok (.ifCond .eq 14, 3) := by decide +kernel
theorem dX12_asksWeek_7 : decode cX12_asksWeek 7 = .ok (.aload_n 0, 1) := by decide +kernel
theorem dX12_asksWeek_8 : decode cX12_asksWeek 8 = .ok (.invokevirtual 77, 3) := by decide +kernel
theorem dX12_asksWeek_11 : decode cX12_asksWeek 11 = .ok (.ifCond .eq 7, 3) := by decide +kernel
theorem dX12_asksWeek_14 : decode cX12_asksWeek 14 = .ok (.iload_n 2, 1) := by decide +kernel
theorem dX12_asksWeek_15 : decode cX12_asksWeek 15 = .ok (.ifCond .ne 6, 3) := by decide +kernel
theorem dX12_asksWeek_18 : decode cX12_asksWeek 18 = .ok (.bipush (-2), 2) := by decide +kernel
theorem dX12_asksWeek_20 : decode cX12_asksWeek 20 = .ok (.ireturn, 1) := by decide +kernel
theorem dX12_asksWeek_21 : decode cX12_asksWeek 21 = .ok (.aload_n 0, 1) := by decide +kernel
theorem dX12_asksWeek_22 : decode cX12_asksWeek 22 = .ok (.getfield 49, 3) := by decide +kernel
theorem dX12_asksWeek_25 : decode cX12_asksWeek 25 = .ok (.iload_n 1, 1) := by decide +kernel
theorem dX12_asksWeek_26 : decode cX12_asksWeek 26 = .ok (.iaload, 1) := by decide +kernel
theorem dX12_asksWeek_27 : decode cX12_asksWeek 27 = .ok (.iconst (-1), 1) := by decide +kernel
theorem dX12_asksWeek_28 : decode cX12_asksWeek 28 = .ok (.if_icmp .ne 6, 3) := by decide +kernel
theorem dX12_asksWeek_31 : decode cX12_asksWeek 31 = .ok (.bipush (-6), 2) := by decide +kernel
theorem dX12_asksWeek_33 : decode cX12_asksWeek 33 = .ok (.ireturn, 1) := by decide +kernel
theorem dX12_asksWeek_34 : decode cX12_asksWeek 34 = .ok (.aload_n 0, 1) := by decide +kernel
theorem dX12_asksWeek_35 : decode cX12_asksWeek 35 = .ok (.getfield 49, 3) := by decide +kernel
theorem dX12_asksWeek_38 : decode cX12_asksWeek 38 = .ok (.iload_n 1, 1) := by decide +kernel
theorem dX12_asksWeek_39 : decode cX12_asksWeek 39 = .ok (.iaload, 1) := by decide +kernel
theorem dX12_asksWeek_40 : decode cX12_asksWeek 40 = .ok (.aload_n 0, 1) := by decide +kernel
theorem dX12_asksWeek_41 : decode cX12_asksWeek 41 = .ok (.getfield 9, 3) := by decide +kernel
theorem dX12_asksWeek_44 : decode cX12_asksWeek 44 = .ok (.iconst 2, 1) := by decide +kernel
theorem dX12_asksWeek_45 : decode cX12_asksWeek 45 = .ok (.iaload, 1) := by decide +kernel
theorem dX12_asksWeek_46 : decode cX12_asksWeek 46 = .ok (.if_icmp .le 6, 3) := by decide +kernel
theorem dX12_asksWeek_49 : decode cX12_asksWeek 49 = .ok (.bipush (-2), 2) := by decide +kernel
theorem dX12_asksWeek_51 : decode cX12_asksWeek 51 = .ok (.ireturn, 1) := by decide +kernel
theorem dX12_asksWeek_52 : decode cX12_asksWeek 52 = .ok (.iconst 0, 1) := by decide +kernel
theorem dX12_asksWeek_53 : decode cX12_asksWeek 53 = .ok (.istore_n 3, 1) := by decide +kernel
theorem dX12_asksWeek_54 : decode cX12_asksWeek 54 = .ok (.iload_n 3, 1) := by decide +kernel
theorem dX12_asksWeek_55 : decode cX12_asksWeek 55 = .ok (.aload_n 0, 1) := by decide +kernel
theorem dX12_asksWeek_56 : decode cX12_asksWeek 56 = .ok (.getfield 49, 3) := by decide +kernel
theorem dX12_asksWeek_59 : decode cX12_asksWeek 59 = .ok (.iload_n 1, 1) := by decide +kernel
theorem dX12_asksWeek_60 : decode cX12_asksWeek 60 = .ok (.iaload, 1) := by decide +kernel
theorem dX12_asksWeek_61 : decode cX12_asksWeek 61 = .ok (.if_icmp .ge 25, 3) := by decide +kernel
theorem dX12_asksWeek_64 : decode cX12_asksWeek 64 = .ok (.aload_n 0, 1) := by decide +kernel
theorem dX12_asksWeek_65 : decode cX12_asksWeek 65 = .ok (.aload_n 0, 1) := by decide +kernel
theorem dX12_asksWeek_66 : decode cX12_asksWeek 66 = .ok (.iload_n 1, 1) := by decide +kernel
theorem dX12_asksWeek_67 : decode cX12_asksWeek 67 = .ok (.iload_n 3, 1) := by decide +kernel
theorem dX12_asksWeek_68 : decode cX12_asksWeek 68 = .ok (.invokevirtual 292, 3) := by decide +kernel
theorem dX12_asksWeek_71 : decode cX12_asksWeek 71 = .ok (.invokevirtual 286, 3) := by decide +kernel
theorem dX12_asksWeek_74 : decode cX12_asksWeek 74 = .ok (.ifCond .ne 6, 3) := by decide +kernel
theorem dX12_asksWeek_77 : decode cX12_asksWeek 77 = .ok (.bipush (-2), 2) := by decide +kernel
theorem dX12_asksWeek_79 : decode cX12_asksWeek 79 = .ok (.ireturn, 1) := by decide +kernel
theorem dX12_asksWeek_80 : decode cX12_asksWeek 80 = .ok (.iinc 3 1, 3) := by decide +kernel
theorem dX12_asksWeek_83 : decode cX12_asksWeek 83 = .ok (.goto (-29), 3) := by decide +kernel
theorem dX12_asksWeek_86 : decode cX12_asksWeek 86 = .ok (.iconst 0, 1) := by decide +kernel
theorem dX12_asksWeek_87 : decode cX12_asksWeek 87 = .ok (.ireturn, 1) := by decide +kernel
theorem dX12_isSeed_0 : decode cX12_isSeed 0 = .ok (.iload_n 0, 1) := by decide +kernel
theorem dX12_isSeed_1 : decode cX12_isSeed 1 = .ok (.i2l, 1) := by decide +kernel
theorem dX12_isSeed_2 : decode cX12_isSeed 2 = .ok (.lconst 0, 1) := by decide +kernel
theorem dX12_isSeed_3 : decode cX12_isSeed 3 = .ok (.ldc2_w 436, 3) := by decide +kernel
theorem dX12_isSeed_6 : decode cX12_isSeed 6 = .ok (.invokestatic 67, 3) := by decide +kernel
theorem dX12_isSeed_9 : decode cX12_isSeed 9 = .ok (.ireturn, 1) := by decide +kernel
theorem dX12_isSlot_0 : decode cX12_isSlot 0 = .ok (.iload_n 0, 1) := by decide +kernel
theorem dX12_isSlot_1 : decode cX12_isSlot 1 = .ok (.i2l, 1) := by decide +kernel
theorem dX12_isSlot_2 : decode cX12_isSlot 2 = .ok (.lconst 0, 1) := by decide +kernel
theorem dX12_isSlot_3 : decode cX12_isSlot 3 = .ok (.ldc2_w 447, 3) := by decide +kernel
theorem dX12_isSlot_6 : decode cX12_isSlot 6 = .ok (.invokestatic 67, 3) := by decide +kernel
theorem dX12_isSlot_9 : decode cX12_isSlot 9 = .ok (.ireturn, 1) := by decide +kernel
theorem dX12_numberAt_0 : decode cX12_numberAt 0 = .ok (.aload_n 0, 1) := by decide +kernel
theorem dX12_numberAt_1 : decode cX12_numberAt 1 = .ok (.getfield 55, 3) := by decide +kernel
theorem dX12_numberAt_4 : decode cX12_numberAt 4 = .ok (.bipush 60, 2) := by decide +kernel
theorem dX12_numberAt_6 : decode cX12_numberAt 6 = .ok (.iload_n 1, 1) := by decide +kernel
theorem dX12_numberAt_7 : decode cX12_numberAt 7 = .ok (.imul, 1) := by decide +kernel
theorem dX12_numberAt_8 : decode cX12_numberAt 8 = .ok (.iload_n 2, 1) := by decide +kernel
theorem dX12_numberAt_9 : decode cX12_numberAt 9 = .ok (.iadd, 1) := by decide +kernel
theorem dX12_numberAt_10 : decode cX12_numberAt 10 = .ok (.laload, 1) := by decide +kernel
theorem dX12_numberAt_11 : decode cX12_numberAt 11 = .ok (.lreturn, 1) := by decide +kernel
theorem dX12_toldAt_0 : decode cX12_toldAt 0 = .ok (.aload_n 0, 1) := by decide +kernel
theorem dX12_toldAt_1 : decode cX12_toldAt 1 = .ok (.iload_n 1, 1) := by decide +kernel
theorem dX12_toldAt_2 : decode cX12_toldAt 2 = .ok (.iload_n 2, 1) := by decide +kernel
theorem dX12_toldAt_3 : decode cX12_toldAt 3 = .ok (.invokevirtual 292, 3) := by decide +kernel
theorem dX12_toldAt_6 : decode cX12_toldAt 6 = .ok (.l2i, 1) := by decide +kernel
theorem dX12_toldAt_7 : decode cX12_toldAt 7 = .ok (.ireturn, 1) := by decide +kernel
