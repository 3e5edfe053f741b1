theorem b_1028 : Cond.fieldLink RX12 358 "GentleLettersModel" "leastOrder" "I" ∈ BIG := bi (tin_6 _ (List.mem_of_getElem? (i := 122) rfl)) rfl
theorem b_1029 : Cond.methodLink RX12 361 yX12_leftInOrder ∈ BIG := bi (tin_8 _ (List.mem_of_getElem? (i := 148) rfl)) rfl
theorem b_1030 : Cond.methodLink RX12 364 yX12_nextOrder ∈ BIG := bi (tin_8 _ (List.mem_of_getElem? (i := 152) rfl)) rfl
theorem b_1031 : Cond.fieldLink RX12 40 "GentleLettersModel" "bestOrder" "[I" ∈ BIG := bi (tin_6 _ (List.mem_of_getElem? (i := 121) rfl)) rfl
theorem b_1032 : Cond.methodLink RX12 367 yX12_asksOrder ∈ BIG := bi (tin_8 _ (List.mem_of_getElem? (i := 140) rfl)) rfl
theorem b_1033 : Cond.methodLink RX12 370 yX12_findOrder ∈ BIG := bi (tin_8 _ (List.mem_of_getElem? (i := 144) rfl)) rfl
theorem b_1034 : Cond.code yX12_asksOrder cX12_asksOrder 4 (some .int) ∈ BIG := bi (tin_8 _ (List.mem_of_getElem? (i := 143) rfl)) rfl
theorem b_1035 : Cond.instanceMethod yX12_asksOrder ∈ BIG := bi (tin_8 _ (List.mem_of_getElem? (i := 142) rfl)) rfl
theorem b_1036 : Cond.selects RX12 yX12_asksOrder yX12_asksOrder ∈ BIG := bi (sin_10 _ (List.mem_map.mpr ⟨(yX12_asksOrder, 29), List.mem_of_getElem? (i := 9) rfl, rfl⟩)) rfl
theorem b_1037 : Cond.code yX12_findOrder cX12_findOrder 5 none ∈ BIG := bi (tin_8 _ (List.mem_of_getElem? (i := 147) rfl)) rfl
theorem b_1038 : Cond.instanceMethod yX12_findOrder ∈ BIG := bi (tin_8 _ (List.mem_of_getElem? (i := 146) rfl)) rfl
theorem b_1039 : Cond.selects RX12 yX12_findOrder yX12_findOrder ∈ BIG := bi (sin_10 _ (List.mem_map.mpr ⟨(yX12_findOrder, 29), List.mem_of_getElem? (i := 10) rfl, rfl⟩)) rfl
theorem b_1040 : Cond.code yX12_leftInOrder cX12_leftInOrder 7 (some .int) ∈ BIG := bi (tin_8 _ (List.mem_of_getElem? (i := 151) rfl)) rfl
theorem b_1041 : Cond.instanceMethod yX12_leftInOrder ∈ BIG := bi (tin_8 _ (List.mem_of_getElem? (i := 150) rfl)) rfl
theorem b_1042 : Cond.selects RX12 yX12_leftInOrder yX12_leftInOrder ∈ BIG := bi (sin_10 _ (List.mem_map.mpr ⟨(yX12_leftInOrder, 29), List.mem_of_getElem? (i := 11) rfl, rfl⟩)) rfl
theorem b_1043 : Cond.code yX12_nextOrder cX12_nextOrder 6 (some .boolean) ∈ BIG := bi (tin_8 _ (List.mem_of_getElem? (i := 155) rfl)) rfl
theorem b_1044 : Cond.instanceMethod yX12_nextOrder ∈ BIG := bi (tin_8 _ (List.mem_of_getElem? (i := 154) rfl)) rfl
theorem b_1045 : Cond.selects RX12 yX12_nextOrder yX12_nextOrder ∈ BIG := bi (sin_10 _ (List.mem_map.mpr ⟨(yX12_nextOrder, 29), List.mem_of_getElem? (i := 12) rfl, rfl⟩)) rfl
theorem m_yX12_asksOrder : MV yX12_asksOrder cX12_asksOrder 4 (some .int) 2 := ⟨b_1034, b_1035, b_1036, b_810, by decide +kernel⟩
theorem m_yX12_findOrder : MV yX12_findOrder cX12_findOrder 5 none 2 := ⟨b_1037, b_1038, b_1039, b_810, by decide +kernel⟩
theorem m_yX12_leftInOrder : MV yX12_leftInOrder cX12_leftInOrder 7 (some .int) 2 := ⟨b_1040, b_1041, b_1042, b_810, by decide +kernel⟩
theorem m_yX12_nextOrder : MV yX12_nextOrder cX12_nextOrder 6 (some .boolean) 1 := ⟨b_1043, b_1044, b_1045, b_810, by decide +kernel⟩
theorem dX12_asksOrder_0 : decode cX12_asksOrder 0 = .ok (.aload_n 0, 1) := by decide +kernel
theorem dX12_asksOrder_1 : decode cX12_asksOrder 1 = .ok (.iload_n 1, 1) := by decide +kernel
theorem dX12_asksOrder_2 : decode cX12_asksOrder 2 = .ok (.aload_n 0, 1) := by decide +kernel
theorem dX12_asksOrder_3 : decode cX12_asksOrder 3 = .ok (.iload_n 2, 1) := by decide +kernel
theorem dX12_asksOrder_4 : decode cX12_asksOrder 4 = .ok (.invokevirtual 258, 3) := by decide +kernel
theorem dX12_asksOrder_7 : decode cX12_asksOrder 7 = .ok (.invokevirtual 299, 3) := by decide +kernel
theorem dX12_asksOrder_10 : decode cX12_asksOrder 10 = .ok (.istore_n 3, 1) := by decide +kernel
theorem dX12_asksOrder_11 : decode cX12_asksOrder 11 = .ok (.iload_n 3, 1) := by decide +kernel
theorem dX12_asksOrder_12 : decode cX12_asksOrder 12 = .ok (.ifCond .ge 7, 3) := by decide +kernel
theorem dX12_asksOrder_15 : decode cX12_asksOrder 15 = .ok (.iload_n 3, 1) := by decide +kernel
theorem dX12_asksOrder_16 : decode cX12_asksOrder 16 = .ok (.goto 20, 3) := by decide +kernel
theorem dX12_asksOrder_19 : decode cX12_asksOrder 19 = .ok (.aload_n 0, 1) := by decide +kernel
theorem dX12_asksOrder_20 : decode cX12_asksOrder 20 = .ok (.getfield 49, 3) := by decide +kernel
theorem dX12_asksOrder_23 : decode cX12_asksOrder 23 = .ok (.iload_n 1, 1) := by decide +kernel
theorem dX12_asksOrder_24 : decode cX12_asksOrder 24 = .ok (.iaload, 1) := by decide +kernel
theorem dX12_asksOrder_25 : decode cX12_asksOrder 25 = .ok (.bipush 6, 2) := by decide +kernel
theorem dX12_asksOrder_27 : decode cX12_asksOrder 27 = .ok (.if_icmp .le 8, 3) := by decide +kernel
theorem dX12_asksOrder_30 : decode cX12_asksOrder 30 = .ok (.bipush (-2), 2) := by decide +kernel
theorem dX12_asksOrder_32 : decode cX12_asksOrder 32 = .ok (.goto 4, 3) := by decide +kernel
theorem dX12_asksOrder_35 : decode cX12_asksOrder 35 = .ok (.iconst 0, 1) := by decide +kernel
theorem dX12_asksOrder_36 : decode cX12_asksOrder 36 = .ok (.ireturn, 1) := by decide +kernel
theorem dX12_findOrder_0 : decode cX12_findOrder 0 = .ok (.iconst 0, 1) := by decide +kernel
theorem dX12_findOrder_1 : decode cX12_findOrder 1 = .ok (.istore_n 3, 1) := by decide +kernel
theorem dX12_findOrder_2 : decode cX12_findOrder 2 = .ok (.iload_n 3, 1) := by decide +kernel
theorem dX12_findOrder_3 : decode cX12_findOrder 3 = .ok (.bipush 6, 2) := by decide +kernel
theorem dX12_findOrder_5 : decode cX12_findOrder 5 = .ok (.if_icmp .ge 16, 3) := by decide +kernel
theorem dX12_findOrder_8 : decode cX12_findOrder 8 = .ok (.aload_n 0, 1) := by decide +kernel
theorem dX12_findOrder_9 : decode cX12_findOrder 9 = .ok (.getfield 37, 3) := by decide +kernel
theorem dX12_findOrder_12 : decode cX12_findOrder 12 = .ok (.iload_n 3, 1) := by decide +kernel
theorem dX12_findOrder_13 : decode cX12_findOrder 13 = .ok (.iload_n 3, 1) := by decide +kernel
theorem dX12_findOrder_14 : decode cX12_findOrder 14 = .ok (.iastore, 1) := by decide +kernel
theorem dX12_findOrder_15 : decode cX12_findOrder 15 = .ok (.iinc 3 1, 3) := by decide +kernel
theorem dX12_findOrder_18 : decode cX12_findOrder 18 = .ok (.goto (-16), 3) := by decide +kernel
theorem dX12_findOrder_21 : decode cX12_findOrder 21 = .ok (.aload_n 0, 1) := by decide +kernel
theorem dX12_findOrder_22 : decode cX12_findOrder 22 = .ok (.ldc_w 321, 3) := by decide +kernel
theorem dX12_findOrder_25 : decode cX12_findOrder 25 = .ok (.putfield 358, 3) := by decide +kernel
theorem dX12_findOrder_28 : decode cX12_findOrder 28 = .ok (.aload_n 0, 1) := by decide +kernel
theorem dX12_findOrder_29 : decode cX12_findOrder 29 = .ok (.iload_n 1, 1) := by decide +kernel
theorem dX12_findOrder_30 : decode cX12_findOrder 30 = .ok (.iload_n 2, 1) := by decide +kernel
theorem dX12_findOrder_31 : decode cX12_findOrder 31 = .ok (.invokevirtual 361, 3) := by decide +kernel
theorem dX12_findOrder_34 : decode cX12_findOrder 34 = .ok (.istore_n 3, 1) := by decide +kernel
theorem dX12_findOrder_35 : decode cX12_findOrder 35 = .ok (.iload_n 3, 1) := by decide +kernel
theorem dX12_findOrder_36 : decode cX12_findOrder 36 = .ok (.aload_n 0, 1) := by decide +kernel
theorem dX12_findOrder_37 : decode cX12_findOrder 37 = .ok (.getfield 358, 3) := by decide +kernel
theorem dX12_findOrder_40 : decode cX12_findOrder 40 = .ok (.if_icmp .ge 38, 3) := by decide +kernel
theorem dX12_findOrder_43 : decode cX12_findOrder 43 = .ok (.aload_n 0, 1) := by decide +kernel
theorem dX12_findOrder_44 : decode cX12_findOrder 44 = .ok (.iload_n 3, 1) := by decide +kernel
theorem dX12_findOrder_45 : decode cX12_findOrder 45 = .ok (.putfield 358, 3) := by decide +kernel
theorem dX12_findOrder_48 : decode cX12_findOrder 48 = .ok (.iconst 0, 1) := by decide +kernel
theorem dX12_findOrder_49 : decode cX12_findOrder 49 = .ok (.istore 4, 2) := by decide +kernel
theorem dX12_findOrder_51 : decode cX12_findOrder 51 = .ok (.iload 4, 2) := by decide +kernel
theorem dX12_findOrder_53 : decode cX12_findOrder 53 = .ok (.bipush 6, 2) := by decide +kernel
theorem dX12_findOrder_55 : decode cX12_findOrder 55 = .ok (.if_icmp .ge 23, 3) := by decide +kernel
theorem dX12_findOrder_58 : decode cX12_findOrder 58 = .ok (.aload_n 0, 1) := by decide +kernel
theorem dX12_findOrder_59 : decode cX12_findOrder 59 = .ok (.getfield 40, 3) := by decide +kernel
theorem dX12_findOrder_62 : decode cX12_findOrder 62 = .ok (.iload 4, 2) := by decide +kernel
theorem dX12_findOrder_64 : decode cX12_findOrder 64 = .ok (.aload_n 0, 1) := by decide +kernel
theorem dX12_findOrder_65 : decode cX12_findOrder 65 = .ok (.getfield 37, 3) := by decide +kernel
theorem dX12_findOrder_68 : decode cX12_findOrder 68 = .ok (.iload 4, 2) := by decide +kernel
theorem dX12_findOrder_70 : decode cX12_findOrder 70 = .ok (.iaload, 1) := by decide +kernel
theorem dX12_findOrder_71 : decode cX12_findOrder 71 = .ok (.iastore, 1) := by decide +kernel
theorem dX12_findOrder_72 : decode cX12_findOrder 72 = .ok (.iinc 4 1, 3) := by decide +kernel
theorem dX12_findOrder_75 : decode cX12_findOrder 75 = .ok (.goto (-24), 3) := by decide +kernel
theorem dX12_findOrder_78 : decode cX12_findOrder 78 = .ok (.aload_n 0, 1) := by decide +kernel
theorem dX12_findOrder_79 : decode cX12_findOrder 79 = .ok (.aload_n 0, 1) := by decide +kernel
theorem dX12_findOrder_80 : decode cX12_findOrder 80 = .ok (.getfield 49, 3) := by decide +kernel
theorem dX12_findOrder_83 : decode cX12_findOrder 83 = .ok (.iload_n 1, 1) := by decide +kernel
theorem dX12_findOrder_84 : decode cX12_findOrder 84 = .ok (.iaload, 1) := by decide +kernel
theorem dX12_findOrder_85 : decode cX12_findOrder 85 = .ok (.invokevirtual 364, 3) := by decide +kernel
theorem dX12_findOrder_88 : decode cX12_findOrder 88 = .ok (.ifCond .ne (-60), 3) := by decide +kernel
theorem dX12_findOrder_91 : decode cX12_findOrder 91 = .ok (.return_, 1) := by decide +kernel
theorem dX12_ordered_0 : decode cX12_ordered 0 = .ok (.aload_n 0, 1) := by decide +kernel
theorem dX12_ordered_1 : decode cX12_ordered 1 = .ok (.iload_n 1, 1) := by decide +kernel
theorem dX12_ordered_2 : decode cX12_ordered 2 = .ok (.iload_n 2, 1) := by decide +kernel
theorem dX12_ordered_3 : decode cX12_ordered 3 = .ok (.invokevirtual 367, 3) := by decide +kernel
theorem dX12_ordered_6 : decode cX12_ordered 6 = .ok (.istore 4, 2) := by decide +kernel
theorem dX12_ordered_8 : decode cX12_ordered 8 = .ok (.iload 4, 2) := by decide +kernel
theorem dX12_ordered_10 : decode cX12_ordered 10 = .ok (.ifCond .ge 6, 3) := by decide +kernel
theorem dX12_ordered_13 : decode cX12_ordered 13 = .ok (.iload 4, 2) := by decide +kernel
theorem dX12_ordered_15 : decode cX12_ordered 15 = .ok (.ireturn, 1) := by decide +kernel
theorem dX12_ordered_16 : decode cX12_ordered 16 = .ok (.aload_n 0, 1) := by decide +kernel
theorem dX12_ordered_17 : decode cX12_ordered 17 = .ok (.iload_n 1, 1) := by decide +kernel
theorem dX12_ordered_18 : decode cX12_ordered 18 = .ok (.iload_n 2, 1) := by decide +kernel
theorem dX12_ordered_19 : decode cX12_ordered 19 = .ok (.invokevirtual 370, 3) := by decide +kernel
theorem dX12_ordered_22 : decode cX12_ordered 22 = .ok (.iload_n 3, 1) := by decide +kernel
theorem dX12_ordered_23 : decode cX12_ordered 23 = .ok (.i2l, 1) := by decide +kernel
theorem dX12_ordered_24 : decode cX12_ordered 24 = .ok (.lconst 0, 1) := by decide +kernel
theorem dX12_ordered_25 : decode cX12_ordered 25 = .ok (.aload_n 0, 1) := by decide +kernel
theorem dX12_ordered_26 : decode cX12_ordered 26 = .ok (.getfield 49, 3) := by decide +kernel
theorem dX12_ordered_29 : decode cX12_ordered 29 = .ok (.iload_n 1, 1) := by decide +kernel
theorem dX12_ordered_30 : decode cX12_ordered 30 = .ok (.iaload, 1) := by decide +kernel
theorem dX12_ordered_31 : decode cX12_ordered 31 = .ok (.iconst 1, 1) := by decide +kernel
theorem dX12_ordered_32 : decode cX12_ordered 32 = .ok (.isub, 1) := by decide +kernel
theorem dX12_ordered_33 : decode cX12_ordered 33 = .ok (.i2l, 1) := by decide +kernel
theorem dX12_ordered_34 : decode cX12_ordered 34 = .ok (.invokestatic 67, 3) := by decide +kernel
theorem dX12_ordered_37 : decode cX12_ordered 37 = .ok (.ifCond .eq 12, 3) := by decide +kernel
theorem dX12_ordered_40 : decode cX12_ordered 40 = .ok (.aload_n 0, 1) := by decide +kernel
theorem dX12_ordered_41 : decode cX12_ordered 41 = .ok (.getfield 40, 3) := by decide +kernel
theorem dX12_ordered_44 : decode cX12_ordered 44 = .ok (.iload_n 3, 1) := by decide +kernel
theorem dX12_ordered_45 : decode cX12_ordered 45 = .ok (.iaload, 1) := by decide +kernel
theorem dX12_ordered_46 : decode cX12_ordered 46 = .ok (.goto 4, 3) := by decide +kernel
theorem dX12_ordered_49 : decode cX12_ordered 49 = .ok (.iconst (-1), 1) := by decide +kernel
theorem dX12_ordered_50 : decode cX12_ordered 50 = .ok (.ireturn, 1) := by decide +kernel
theorem dX12_softer_0 : decode cX12_softer 0 = .ok (.aload_n 0, 1) := by decide +kernel
theorem dX12_softer_1 : decode cX12_softer 1 = .ok (.iload_n 1, 1) := by decide +kernel
theorem dX12_softer_2 : decode cX12_softer 2 = .ok (.iload_n 2, 1) := by decide +kernel
theorem dX12_softer_3 : decode cX12_softer 3 = .ok (.invokevirtual 367, 3) := by decide +kernel
theorem dX12_softer_6 : decode cX12_softer 6 = .ok (.istore_n 3, 1) := by decide +kernel
theorem dX12_softer_7 : decode cX12_softer 7 = .ok (.iload_n 3, 1) := by decide +kernel
theorem dX12_softer_8 : decode cX12_softer 8 = .ok (.ifCond .ge 5, 3) := by decide +kernel
theorem dX12_softer_11 : decode cX12_softer 11 = .ok (.iload_n 3, 1) := by decide +kernel
theorem dX12_softer_12 : decode cX12_softer 12 = .ok (.ireturn, 1) := by decide +kernel
theorem dX12_softer_13 : decode cX12_softer 13 = .ok (.aload_n 0, 1) := by decide +kernel
theorem dX12_softer_14 : decode cX12_softer 14 = .ok (.iload_n 1, 1) := by decide +kernel
theorem dX12_softer_15 : decode cX12_softer 15 = .ok (.iload_n 2, 1) := by decide +kernel
theorem dX12_softer_16 : decode cX12_softer 16 = .ok (.invokevirtual 370, 3) := by decide +kernel
theorem dX12_softer_19 : decode cX12_softer 19 = .ok (.aload_n 0, 1) := by decide +kernel
theorem dX12_softer_20 : decode cX12_softer 20 = .ok (.getfield 358, 3) := by decide +kernel
theorem dX12_softer_23 : decode cX12_softer 23 = .ok (.ireturn, 1) := by decide +kernel
