theorem b_1006 : Cond.methodLink RX12 418 yX12_readOf ∈ BIG := bi (tin_9 _ (List.mem_of_getElem? (i := 38) rfl)) rfl
theorem b_1007 : Cond.fieldLink RX12 383 "GentleLettersModel" "wordsMany" "I" ∈ BIG := bi (tin_6 _ (List.mem_of_getElem? (i := 123) rfl)) rfl
theorem b_1008 : Cond.methodLink RX12 386 yX12_suspectsOf ∈ BIG := bi (tin_8 _ (List.mem_of_getElem? (i := 197) rfl)) rfl
theorem b_1009 : Cond.methodLink RX12 389 yX12_knewOf ∈ BIG := bi (tin_8 _ (List.mem_of_getElem? (i := 205) rfl)) rfl
theorem b_1010 : Cond.methodLink RX12 392 yX12_endOf ∈ BIG := bi (tin_8 _ (List.mem_of_getElem? (i := 213) rfl)) rfl
theorem b_1011 : Cond.code yX12_endOf cX12_endOf 4 (some .int) ∈ BIG := bi (tin_8 _ (List.mem_of_getElem? (i := 216) rfl)) rfl
theorem b_1012 : Cond.instanceMethod yX12_endOf ∈ BIG := bi (tin_8 _ (List.mem_of_getElem? (i := 215) rfl)) rfl
theorem b_1013 : Cond.selects RX12 yX12_endOf yX12_endOf ∈ BIG := bi (sin_11 _ (List.mem_map.mpr ⟨(yX12_endOf, 29), List.mem_of_getElem? (i := 1) rfl, rfl⟩)) rfl
theorem b_1014 : Cond.code yX12_knewOf cX12_knewOf 5 (some .int) ∈ BIG := bi (tin_8 _ (List.mem_of_getElem? (i := 208) rfl)) rfl
theorem b_1015 : Cond.instanceMethod yX12_knewOf ∈ BIG := bi (tin_8 _ (List.mem_of_getElem? (i := 207) rfl)) rfl
theorem b_1016 : Cond.selects RX12 yX12_knewOf yX12_knewOf ∈ BIG := bi (sin_11 _ (List.mem_map.mpr ⟨(yX12_knewOf, 29), List.mem_of_getElem? (i := 0) rfl, rfl⟩)) rfl
theorem b_1017 : Cond.code yX12_readOf cX12_readOf 4 (some .int) ∈ BIG := bi (tin_9 _ (List.mem_of_getElem? (i := 41) rfl)) rfl
theorem b_1018 : Cond.instanceMethod yX12_readOf ∈ BIG := bi (tin_9 _ (List.mem_of_getElem? (i := 40) rfl)) rfl
theorem b_1019 : Cond.selects RX12 yX12_readOf yX12_readOf ∈ BIG := bi (sin_11 _ (List.mem_map.mpr ⟨(yX12_readOf, 29), List.mem_of_getElem? (i := 9) rfl, rfl⟩)) rfl
theorem b_1020 : Cond.code yX12_suspectsOf cX12_suspectsOf 7 (some .int) ∈ BIG := bi (tin_8 _ (List.mem_of_getElem? (i := 200) rfl)) rfl
theorem b_1021 : Cond.instanceMethod yX12_suspectsOf ∈ BIG := bi (tin_8 _ (List.mem_of_getElem? (i := 199) rfl)) rfl
theorem b_1022 : Cond.selects RX12 yX12_suspectsOf yX12_suspectsOf ∈ BIG := bi (sin_10 _ (List.mem_map.mpr ⟨(yX12_suspectsOf, 29), List.mem_of_getElem? (i := 15) rfl, rfl⟩)) rfl
theorem m_yX12_endOf : MV yX12_endOf cX12_endOf 4 (some .int) 1 := ⟨b_1011, b_1012, b_1013, b_810, by decide +kernel⟩
theorem m_yX12_knewOf : MV yX12_knewOf cX12_knewOf 5 (some .int) 2 := ⟨b_1014, b_1015, b_1016, b_810, by decide +kernel⟩
theorem m_yX12_readOf : MV yX12_readOf cX12_readOf 4 (some .int) 1 := ⟨b_1017, b_1018, b_1019, b_810, by decide +kernel⟩
theorem m_yX12_suspectsOf : MV yX12_suspectsOf cX12_suspectsOf 7 (some .int) 2 := ⟨b_1020, b_1021, b_1022, b_810, by decide +kernel⟩
theorem dX12_endOf_0 : decode cX12_endOf 0 = .ok (.aload_n 0, 1) := by decide +kernel
theorem dX12_endOf_1 : decode cX12_endOf 1 = .ok (.invokevirtual 81, 3) := by decide +kernel
theorem dX12_endOf_4 : decode cX12_endOf 4 = .ok (.istore_n 2, 1) := by decide +kernel
theorem dX12_endOf_5 : decode cX12_endOf 5 = .ok (.iconst 0, 1) := by decide +kernel
theorem dX12_endOf_6 : decode cX12_endOf 6 = .ok (.istore_n 3, 1) := by decide +kernel
theorem dX12_endOf_7 : decode cX12_endOf 7 = .ok (.iload_n 3, 1) := by decide +kernel
theorem dX12_endOf_8 : decode cX12_endOf 8 = .ok (.aload_n 0, 1) := by decide +kernel
theorem dX12_endOf_9 : decode cX12_endOf 9 = .ok (.iload_n 1, 1) := by decide +kernel
theorem dX12_endOf_10 : decode cX12_endOf 10 = .ok (.invokevirtual 267, 3) := by decide +kernel
theorem dX12_endOf_13 : decode cX12_endOf 13 = .ok (.if_icmp .ge 21, 3) := by decide +kernel
theorem dX12_endOf_16 : decode cX12_endOf 16 = .ok (.aload_n 0, 1) := by decide +kernel
theorem dX12_endOf_17 : decode cX12_endOf 17 = .ok (.iload_n 2, 1) := by decide +kernel
theorem dX12_endOf_18 : decode cX12_endOf 18 = .ok (.aload_n 0, 1) := by decide +kernel
theorem dX12_endOf_19 : decode cX12_endOf 19 = .ok (.iload_n 1, 1) := by decide +kernel
theorem dX12_endOf_20 : decode cX12_endOf 20 = .ok (.iload_n 3, 1) := by decide +kernel
theorem dX12_endOf_21 : decode cX12_endOf 21 = .ok (.invokevirtual 270, 3) := by decide +kernel
theorem dX12_endOf_24 : decode cX12_endOf 24 = .ok (.invokevirtual 243, 3) := by decide +kernel
theorem dX12_endOf_27 : decode cX12_endOf 27 = .ok (.istore_n 2, 1) := by decide +kernel
theorem dX12_endOf_28 : decode cX12_endOf 28 = .ok (.iinc 3 1, 3) := by decide +kernel
theorem dX12_endOf_31 : decode cX12_endOf 31 = .ok (.goto (-24), 3) := by decide +kernel
theorem dX12_endOf_34 : decode cX12_endOf 34 = .ok (.iload_n 2, 1) := by decide +kernel
theorem dX12_endOf_35 : decode cX12_endOf 35 = .ok (.ireturn, 1) := by decide +kernel
theorem dX12_ends_0 : decode cX12_ends 0 = .ok (.aload_n 0, 1) := by decide +kernel
theorem dX12_ends_1 : decode cX12_ends 1 = .ok (.iload_n 1, 1) := by decide +kernel
theorem dX12_ends_2 : decode cX12_ends 2 = .ok (.invokevirtual 264, 3) := by decide +kernel
theorem dX12_ends_5 : decode cX12_ends 5 = .ok (.ifCond .eq 11, 3) := by decide +kernel
theorem dX12_ends_8 : decode cX12_ends 8 = .ok (.aload_n 0, 1) := by decide +kernel
theorem dX12_ends_9 : decode cX12_ends 9 = .ok (.iload_n 1, 1) := by decide +kernel
theorem dX12_ends_10 : decode cX12_ends 10 = .ok (.invokevirtual 392, 3) := by decide +kernel
theorem dX12_ends_13 : decode cX12_ends 13 = .ok (.goto 5, 3) := by decide +kernel
theorem dX12_ends_16 : decode cX12_ends 16 = .ok (.bipush (-2), 2) := by decide +kernel
theorem dX12_ends_18 : decode cX12_ends 18 = .ok (.ireturn, 1) := by decide +kernel
theorem dX12_guess_0 : decode cX12_guess 0 = .ok (.aload_n 0, 1) := by decide +kernel
theorem dX12_guess_1 : decode cX12_guess 1 = .ok (.iload_n 1, 1) := by decide +kernel
theorem dX12_guess_2 : decode cX12_guess 2 = .ok (.aload_n 0, 1) := by decide +kernel
theorem dX12_guess_3 : decode cX12_guess 3 = .ok (.iload_n 2, 1) := by decide +kernel
theorem dX12_guess_4 : decode cX12_guess 4 = .ok (.invokevirtual 258, 3) := by decide +kernel
theorem dX12_guess_7 : decode cX12_guess 7 = .ok (.invokevirtual 299, 3) := by decide +kernel
theorem dX12_guess_10 : decode cX12_guess 10 = .ok (.istore_n 3, 1) := by decide +kernel
theorem dX12_guess_11 : decode cX12_guess 11 = .ok (.iload_n 3, 1) := by decide +kernel
theorem dX12_guess_12 : decode cX12_guess 12 = .ok (.ifCond .ge 5, 3) := by decide +kernel
theorem dX12_guess_15 : decode cX12_guess 15 = .ok (.iload_n 3, 1) := by decide +kernel
theorem dX12_guess_16 : decode cX12_guess 16 = .ok (.ireturn, 1) := by decide +kernel
theorem dX12_guess_17 : decode cX12_guess 17 = .ok (.aload_n 0, 1) := by decide +kernel
theorem dX12_guess_18 : decode cX12_guess 18 = .ok (.iload_n 1, 1) := by decide +kernel
theorem dX12_guess_19 : decode cX12_guess 19 = .ok (.invokevirtual 418, 3) := by decide +kernel
theorem dX12_guess_22 : decode cX12_guess 22 = .ok (.ifCond .ne 7, 3) := by decide +kernel
theorem dX12_guess_25 : decode cX12_guess 25 = .ok (.iconst (-1), 1) := by decide +kernel
theorem dX12_guess_26 : decode cX12_guess 26 = .ok (.goto 13, 3) := by decide +kernel
theorem dX12_guess_29 : decode cX12_guess 29 = .ok (.aload_n 0, 1) := by decide +kernel
theorem dX12_guess_30 : decode cX12_guess 30 = .ok (.iload_n 2, 1) := by decide +kernel
theorem dX12_guess_31 : decode cX12_guess 31 = .ok (.aload_n 0, 1) := by decide +kernel
theorem dX12_guess_32 : decode cX12_guess 32 = .ok (.iload_n 1, 1) := by decide +kernel
theorem dX12_guess_33 : decode cX12_guess 33 = .ok (.invokevirtual 418, 3) := by decide +kernel
theorem dX12_guess_36 : decode cX12_guess 36 = .ok (.invokevirtual 240, 3) := by decide +kernel
theorem dX12_guess_39 : decode cX12_guess 39 = .ok (.ireturn, 1) := by decide +kernel
theorem dX12_knew_0 : decode cX12_knew 0 = .ok (.aload_n 0, 1) := by decide +kernel
theorem dX12_knew_1 : decode cX12_knew 1 = .ok (.iload_n 1, 1) := by decide +kernel
theorem dX12_knew_2 : decode cX12_knew 2 = .ok (.aload_n 0, 1) := by decide +kernel
theorem dX12_knew_3 : decode cX12_knew 3 = .ok (.iload_n 2, 1) := by decide +kernel
theorem dX12_knew_4 : decode cX12_knew 4 = .ok (.invokevirtual 258, 3) := by decide +kernel
theorem dX12_knew_7 : decode cX12_knew 7 = .ok (.invokevirtual 299, 3) := by decide +kernel
theorem dX12_knew_10 : decode cX12_knew 10 = .ok (.istore_n 3, 1) := by decide +kernel
theorem dX12_knew_11 : decode cX12_knew 11 = .ok (.iload_n 3, 1) := by decide +kernel
theorem dX12_knew_12 : decode cX12_knew 12 = .ok (.ifCond .ge 7, 3) := by decide +kernel
theorem dX12_knew_15 : decode cX12_knew 15 = .ok (.iload_n 3, 1) := by decide +kernel
theorem dX12_knew_16 : decode cX12_knew 16 = .ok (.goto 9, 3) := by decide +kernel
theorem dX12_knew_19 : decode cX12_knew 19 = .ok (.aload_n 0, 1) := by decide +kernel
theorem dX12_knew_20 : decode cX12_knew 20 = .ok (.iload_n 1, 1) := by decide +kernel
theorem dX12_knew_21 : decode cX12_knew 21 = .ok (.iload_n 2, 1) := by decide +kernel
theorem dX12_knew_22 : decode cX12_knew 22 = .ok (.invokevirtual 389, 3) := by decide +kernel
theorem dX12_knew_25 : decode cX12_knew 25 = .ok (.ireturn, 1) := by decide +kernel
theorem dX12_knewOf_0 : decode cX12_knewOf 0 = .ok (.iconst 0, 1) := by decide +kernel
theorem dX12_knewOf_1 : decode cX12_knewOf 1 = .ok (.istore_n 3, 1) := by decide +kernel
theorem dX12_knewOf_2 : decode cX12_knewOf 2 = .ok (.iload_n 3, 1) := by decide +kernel
theorem dX12_knewOf_3 : decode cX12_knewOf 3 = .ok (.aload_n 0, 1) := by decide +kernel
theorem dX12_knewOf_4 : decode cX12_knewOf 4 = .ok (.getfield 49, 3) := by decide +kernel
theorem dX12_knewOf_7 : decode cX12_knewOf 7 = .ok (.iload_n 1, 1) := by decide +kernel
theorem dX12_knewOf_8 : decode cX12_knewOf 8 = .ok (.iaload, 1) := by decide +kernel
theorem dX12_knewOf_9 : decode cX12_knewOf 9 = .ok (.if_icmp .ge 50, 3) := by decide +kernel
theorem dX12_knewOf_12 : decode cX12_knewOf 12 = .ok (.aload_n 0, 1) := by decide +kernel
theorem dX12_knewOf_13 : decode cX12_knewOf 13 = .ok (.iload_n 1, 1) := by decide +kernel
theorem dX12_knewOf_14 : decode cX12_knewOf 14 = .ok (.iload_n 3, 1) := by decide +kernel
theorem dX12_knewOf_15 : decode cX12_knewOf 15 = .ok (.iconst 1, 1) := by decide +kernel
theorem dX12_knewOf_16 : decode cX12_knewOf 16 = .ok (.iadd, 1) := by decide +kernel
theorem dX12_knewOf_17 : decode cX12_knewOf 17 = .ok (.invokevirtual 386, 3) := by decide +kernel
theorem dX12_knewOf_20 : decode cX12_knewOf 20 = .ok (.istore 4, 2) := by decide +kernel
theorem dX12_knewOf_22 : decode cX12_knewOf 22 = .ok (.aload_n 0, 1) := by decide +kernel
theorem dX12_knewOf_23 : decode cX12_knewOf 23 = .ok (.iload_n 2, 1) := by decide +kernel
theorem dX12_knewOf_24 : decode cX12_knewOf 24 = .ok (.invokevirtual 261, 3) := by decide +kernel
theorem dX12_knewOf_27 : decode cX12_knewOf 27 = .ok (.ifCond .le 26, 3) := by decide +kernel
theorem dX12_knewOf_30 : decode cX12_knewOf 30 = .ok (.aload_n 0, 1) := by decide +kernel
theorem dX12_knewOf_31 : decode cX12_knewOf 31 = .ok (.getfield 383, 3) := by decide +kernel
theorem dX12_knewOf_34 : decode cX12_knewOf 34 = .ok (.aload_n 0, 1) := by decide +kernel
theorem dX12_knewOf_35 : decode cX12_knewOf 35 = .ok (.iload_n 2, 1) := by decide +kernel
theorem dX12_knewOf_36 : decode cX12_knewOf 36 = .ok (.invokevirtual 261, 3) := by decide +kernel
theorem dX12_knewOf_39 : decode cX12_knewOf 39 = .ok (.if_icmp .lt 14, 3) := by decide +kernel
theorem dX12_knewOf_42 : decode cX12_knewOf 42 = .ok (.iload 4, 2) := by decide +kernel
theorem dX12_knewOf_44 : decode cX12_knewOf 44 = .ok (.invokestatic 237, 3) := by decide +kernel
theorem dX12_knewOf_47 : decode cX12_knewOf 47 = .ok (.iconst 1, 1) := by decide +kernel
theorem dX12_knewOf_48 : decode cX12_knewOf 48 = .ok (.if_icmp .ne 5, 3) := by decide +kernel
theorem dX12_knewOf_51 : decode cX12_knewOf 51 = .ok (.iload_n 3, 1) := by decide +kernel
theorem dX12_knewOf_52 : decode cX12_knewOf 52 = .ok (.ireturn, 1) := by decide +kernel
theorem dX12_knewOf_53 : decode cX12_knewOf 53 = .ok (.iinc 3 1, 3) := by decide +kernel
theorem dX12_knewOf_56 : decode cX12_knewOf 56 = .ok (.goto (-54), 3) := by decide +kernel
theorem dX12_knewOf_59 : decode cX12_knewOf 59 = .ok (.iconst (-1), 1) := by decide +kernel
theorem dX12_knewOf_60 : decode cX12_knewOf 60 = .ok (.ireturn, 1) := by decide +kernel
theorem dX12_read_0 : decode cX12_read 0 = .ok (.aload_n 0, 1) := by decide +kernel
theorem dX12_read_1 : decode cX12_read 1 = .ok (.iload_n 1, 1) := by decide +kernel
theorem dX12_read_2 : decode cX12_read 2 = .ok (.iconst 1, 1) := by decide +kernel
theorem dX12_read_3 : decode cX12_read 3 = .ok (.invokevirtual 299, 3) := by decide +kernel
theorem dX12_read_6 : decode cX12_read 6 = .ok (.istore_n 2, 1) := by decide +kernel
theorem dX12_read_7 : decode cX12_read 7 = .ok (.iload_n 2, 1) := by decide +kernel
theorem dX12_read_8 : decode cX12_read 8 = .ok (.ifCond .ge 7, 3) := by decide +kernel
theorem dX12_read_11 : decode cX12_read 11 = .ok (.iload_n 2, 1) := by decide +kernel
theorem dX12_read_12 : decode cX12_read 12 = .ok (.goto 8, 3) := by decide +kernel
theorem dX12_read_15 : decode cX12_read 15 = .ok (.aload_n 0, 1) := by decide +kernel
theorem dX12_read_16 : decode cX12_read 16 = .ok (.iload_n 1, 1) := by decide +kernel
theorem dX12_read_17 : decode cX12_read 17 = .ok (.invokevirtual 418, 3) := by decide +kernel
theorem dX12_read_20 : decode cX12_read 20 = .ok (.ireturn, 1) := by decide +kernel
theorem dX12_readOf_0 : decode cX12_readOf 0 = .ok (.aload_n 0, 1) := by decide +kernel
theorem dX12_readOf_1 : decode cX12_readOf 1 = .ok (.invokevirtual 81, 3) := by decide +kernel
theorem dX12_readOf_4 : decode cX12_readOf 4 = .ok (.istore_n 2, 1) := by decide +kernel
theorem dX12_readOf_5 : decode cX12_readOf 5 = .ok (.iconst 0, 1) := by decide +kernel
theorem dX12_readOf_6 : decode cX12_readOf 6 = .ok (.istore_n 3, 1) := by decide +kernel
theorem dX12_readOf_7 : decode cX12_readOf 7 = .ok (.iload_n 3, 1) := by decide +kernel
theorem dX12_readOf_8 : decode cX12_readOf 8 = .ok (.aload_n 0, 1) := by decide +kernel
theorem dX12_readOf_9 : decode cX12_readOf 9 = .ok (.getfield 49, 3) := by decide +kernel
theorem dX12_readOf_12 : decode cX12_readOf 12 = .ok (.iload_n 1, 1) := by decide +kernel
theorem dX12_readOf_13 : decode cX12_readOf 13 = .ok (.iaload, 1) := by decide +kernel
theorem dX12_readOf_14 : decode cX12_readOf 14 = .ok (.if_icmp .ge 37, 3) := by decide +kernel
theorem dX12_readOf_17 : decode cX12_readOf 17 = .ok (.iload_n 2, 1) := by decide +kernel
theorem dX12_readOf_18 : decode cX12_readOf 18 = .ok (.aload_n 0, 1) := by decide +kernel
theorem dX12_readOf_19 : decode cX12_readOf 19 = .ok (.iload_n 1, 1) := by decide +kernel
theorem dX12_readOf_20 : decode cX12_readOf 20 = .ok (.iload_n 3, 1) := by decide +kernel
theorem dX12_readOf_21 : decode cX12_readOf 21 = .ok (.invokevirtual 303, 3) := by decide +kernel
theorem dX12_readOf_24 : decode cX12_readOf 24 = .ok (.bipush 8, 2) := by decide +kernel
theorem dX12_readOf_26 : decode cX12_readOf 26 = .ok (.if_icmp .ne 7, 3) := by decide +kernel
theorem dX12_readOf_29 : decode cX12_readOf 29 = .ok (.iload_n 2, 1) := by decide +kernel
theorem dX12_readOf_30 : decode cX12_readOf 30 = .ok (.goto 13, 3) := by decide +kernel
theorem dX12_readOf_33 : decode cX12_readOf 33 = .ok (.aload_n 0, 1) := by decide +kernel
theorem dX12_readOf_34 : decode cX12_readOf 34 = .ok (.aload_n 0, 1) := by decide +kernel
theorem dX12_readOf_35 : decode cX12_readOf 35 = .ok (.iload_n 1, 1) := by decide +kernel
theorem dX12_readOf_36 : decode cX12_readOf 36 = .ok (.iload_n 3, 1) := by decide +kernel
theorem dX12_readOf_37 : decode cX12_readOf 37 = .ok (.invokevirtual 303, 3) := by decide +kernel
theorem dX12_readOf_40 : decode cX12_readOf 40 = .ok (.invokevirtual 85, 3) := by decide +kernel
theorem dX12_readOf_43 : decode cX12_readOf 43 = .ok (.iand, 1) := by decide +kernel
theorem dX12_readOf_44 : decode cX12_readOf 44 = .ok (.istore_n 2, 1) := by decide +kernel
theorem dX12_readOf_45 : decode cX12_readOf 45 = .ok (.iinc 3 1, 3) := by decide +kernel
theorem dX12_readOf_48 : decode cX12_readOf 48 = .ok (.goto (-41), 3) := by decide +kernel
theorem dX12_readOf_51 : decode cX12_readOf 51 = .ok (.iload_n 2, 1) := by decide +kernel
theorem dX12_readOf_52 : decode cX12_readOf 52 = .ok (.ireturn, 1) := by decide +kernel
theorem dX12_reckoned_0 : decode cX12_reckoned 0 = .ok (.aload_n 0, 1) := by decide +kernel
theorem dX12_reckoned_1 : decode cX12_reckoned 1 = .ok (.iload_n 1, 1) := by decide +kernel
theorem dX12_reckoned_2 : decode cX12_reckoned 2 = .ok (.aload_n 0, 1) := by decide +kernel
theorem dX12_reckoned_3 : decode cX12_reckoned 3 = .ok (.iload_n 2, 1) := by decide +kernel
theorem dX12_reckoned_4 : decode cX12_reckoned 4 = .ok (.invokevirtual 258, 3) := by decide +kernel
theorem dX12_reckoned_7 : decode cX12_reckoned 7 = .ok (.invokevirtual 299, 3) := by decide +kernel
theorem dX12_reckoned_10 : decode cX12_reckoned 10 = .ok (.istore_n 3, 1) := by decide +kernel
theorem dX12_reckoned_11 : decode cX12_reckoned 11 = .ok (.iload_n 3, 1) := by decide +kernel
theorem dX12_reckoned_12 : decode cX12_reckoned 12 = .ok (.ifCond .ge 5, 3) := by decide +kernel
theorem dX12_reckoned_15 : decode cX12_reckoned 15 = .ok (.iload_n 3, 1) := by decide +kernel
theorem dX12_reckoned_16 : decode cX12_reckoned 16 = .ok (.ireturn, 1) := by decide +kernel
theorem dX12_reckoned_17 : decode cX12_reckoned 17 = .ok (.aload_n 0, 1) := by decide +kernel
theorem dX12_reckoned_18 : decode cX12_reckoned 18 = .ok (.iload_n 1, 1) := by decide +kernel
theorem dX12_reckoned_19 : decode cX12_reckoned 19 = .ok (.iload_n 2, 1) := by decide +kernel
theorem dX12_reckoned_20 : decode cX12_reckoned 20 = .ok (.invokevirtual 389, 3) := by decide +kernel
theorem dX12_reckoned_23 : decode cX12_reckoned 23 = .ok (.istore 4, 2) := by decide +kernel
theorem dX12_reckoned_25 : decode cX12_reckoned 25 = .ok (.aload_n 0, 1) := by decide +kernel
theorem dX12_reckoned_26 : decode cX12_reckoned 26 = .ok (.invokevirtual 81, 3) := by decide +kernel
theorem dX12_reckoned_29 : decode cX12_reckoned 29 = .ok (.istore 5, 2) := by decide +kernel
theorem dX12_reckoned_31 : decode cX12_reckoned 31 = .ok (.iconst 0, 1) := by decide +kernel
theorem dX12_reckoned_32 : decode cX12_reckoned 32 = .ok (.istore 6, 2) := by decide +kernel
theorem dX12_reckoned_34 : decode cX12_reckoned 34 = .ok (.iconst 0, 1) := by decide +kernel
theorem dX12_reckoned_35 : decode cX12_reckoned 35 = .ok (.istore 7, 2) := by decide +kernel
theorem dX12_reckoned_37 : decode cX12_reckoned 37 = .ok (.iload 7, 2) := by decide +kernel
theorem dX12_reckoned_39 : decode cX12_reckoned 39 = .ok (.aload_n 0, 1) := by decide +kernel
theorem dX12_reckoned_40 : decode cX12_reckoned 40 = .ok (.getfield 49, 3) := by decide +kernel
theorem dX12_reckoned_43 : decode cX12_reckoned 43 = .ok (.iload_n 1, 1) := by decide +kernel
theorem dX12_reckoned_44 : decode cX12_reckoned 44 = .ok (.iaload, 1) := by decide +kernel
theorem dX12_reckoned_45 : decode cX12_reckoned 45 = .ok (.if_icmp .ge 97, 3) := by decide +kernel
theorem dX12_reckoned_48 : decode cX12_reckoned 48 = .ok (.iload 7, 2) := by decide +kernel
theorem dX12_reckoned_50 : decode cX12_reckoned 50 = .ok (.iload 4, 2) := by decide +kernel
theorem dX12_reckoned_52 : decode cX12_reckoned 52 = .ok (.if_icmp .ne 50, 3) := by decide +kernel
theorem dX12_reckoned_55 : decode cX12_reckoned 55 = .ok (.aload_n 0, 1) := by decide +kernel
theorem dX12_reckoned_56 : decode cX12_reckoned 56 = .ok (.iload_n 1, 1) := by decide +kernel
theorem dX12_reckoned_57 : decode cX12_reckoned 57 = .ok (.iload 7, 2) := by decide +kernel
theorem dX12_reckoned_59 : decode cX12_reckoned 59 = .ok (.iconst 1, 1) := by decide +kernel
theorem dX12_reckoned_60 : decode cX12_reckoned 60 = .ok (.iadd, 1) := by decide +kernel
theorem dX12_reckoned_61 : decode cX12_reckoned 61 = .ok (.invokevirtual 386, 3) := by decide +kernel
theorem dX12_reckoned_64 : decode cX12_reckoned 64 = .ok (.istore 8, 2) := by decide +kernel
theorem dX12_reckoned_66 : decode cX12_reckoned 66 = .ok (.iconst 0, 1) := by decide +kernel
theorem dX12_reckoned_67 : decode cX12_reckoned 67 = .ok (.istore 9, 2) := by decide +kernel
theorem dX12_reckoned_69 : decode cX12_reckoned 69 = .ok (.iload 8, 2) := by decide +kernel
theorem dX12_reckoned_71 : decode cX12_reckoned 71 = .ok (.iload 9, 2) := by decide +kernel
theorem dX12_reckoned_73 : decode cX12_reckoned 73 = .ok (.invokestatic 89, 3) := by decide +kernel
theorem dX12_reckoned_76 : decode cX12_reckoned 76 = .ok (.ifCond .ne 9, 3) := by decide +kernel
theorem dX12_reckoned_79 : decode cX12_reckoned 79 = .ok (.iinc 9 1, 3) := by decide +kernel
theorem dX12_reckoned_82 : decode cX12_reckoned 82 = .ok (.goto (-13), 3) := by decide +kernel
theorem dX12_reckoned_85 : decode cX12_reckoned 85 = .ok (.iload 6, 2) := by decide +kernel
theorem dX12_reckoned_87 : decode cX12_reckoned 87 = .ok (.aload_n 0, 1) := by decide +kernel
theorem dX12_reckoned_88 : decode cX12_reckoned 88 = .ok (.iload_n 2, 1) := by decide +kernel
theorem dX12_reckoned_89 : decode cX12_reckoned 89 = .ok (.iload 5, 2) := by decide +kernel
theorem dX12_reckoned_91 : decode cX12_reckoned 91 = .ok (.aload_n 0, 1) := by decide +kernel
theorem dX12_reckoned_92 : decode cX12_reckoned 92 = .ok (.iload 9, 2) := by decide +kernel
theorem dX12_reckoned_94 : decode cX12_reckoned 94 = .ok (.invokevirtual 392, 3) := by decide +kernel
theorem dX12_reckoned_97 : decode cX12_reckoned 97 = .ok (.invokevirtual 246, 3) := by decide +kernel
theorem dX12_reckoned_100 : decode cX12_reckoned 100 = .ok (.iadd, 1) := by decide +kernel
theorem dX12_reckoned_101 : decode cX12_reckoned 101 = .ok (.ireturn, 1) := by decide +kernel
theorem dX12_reckoned_102 : decode cX12_reckoned 102 = .ok (.iload 6, 2) := by decide +kernel
theorem dX12_reckoned_104 : decode cX12_reckoned 104 = .ok (.aload_n 0, 1) := by decide +kernel
theorem dX12_reckoned_105 : decode cX12_reckoned 105 = .ok (.iload_n 2, 1) := by decide +kernel
theorem dX12_reckoned_106 : decode cX12_reckoned 106 = .ok (.iload 5, 2) := by decide +kernel
theorem dX12_reckoned_108 : decode cX12_reckoned 108 = .ok (.aload_n 0, 1) := by decide +kernel
theorem dX12_reckoned_109 : decode cX12_reckoned 109 = .ok (.iload_n 1, 1) := by decide +kernel
theorem dX12_reckoned_110 : decode cX12_reckoned 110 = .ok (.iload 7, 2) := by decide +kernel
theorem dX12_reckoned_112 : decode cX12_reckoned 112 = .ok (.invokevirtual 303, 3) := by decide +kernel
theorem dX12_reckoned_115 : decode cX12_reckoned 115 = .ok (.invokevirtual 289, 3) := by decide +kernel
theorem dX12_reckoned_118 : decode cX12_reckoned 118 = .ok (.iadd, 1) := by decide +kernel
theorem dX12_reckoned_119 : decode cX12_reckoned 119 = .ok (.istore 6, 2) := by decide +kernel
theorem dX12_reckoned_121 : decode cX12_reckoned 121 = .ok (.aload_n 0, 1) := by decide +kernel
theorem dX12_reckoned_122 : decode cX12_reckoned 122 = .ok (.iload 5, 2) := by decide +kernel
theorem dX12_reckoned_124 : decode cX12_reckoned 124 = .ok (.aload_n 0, 1) := by decide +kernel
theorem dX12_reckoned_125 : decode cX12_reckoned 125 = .ok (.iload_n 1, 1) := by decide +kernel
theorem dX12_reckoned_126 : decode cX12_reckoned 126 = .ok (.iload 7, 2) := by decide +kernel
theorem dX12_reckoned_128 : decode cX12_reckoned 128 = .ok (.invokevirtual 303, 3) := by decide +kernel
theorem dX12_reckoned_131 : decode cX12_reckoned 131 = .ok (.invokevirtual 243, 3) := by decide +kernel
theorem dX12_reckoned_134 : decode cX12_reckoned 134 = .ok (.istore 5, 2) := by decide +kernel
theorem dX12_reckoned_136 : decode cX12_reckoned 136 = .ok (.iinc 7 1, 3) := by decide +kernel
theorem dX12_reckoned_139 : decode cX12_reckoned 139 = .ok (.goto (-102), 3) := by decide +kernel
theorem dX12_reckoned_142 : decode cX12_reckoned 142 = .ok (.iload 6, 2) := by decide +kernel
theorem dX12_reckoned_144 : decode cX12_reckoned 144 = .ok (.ireturn, 1) := by decide +kernel
theorem dX12_suspects_0 : decode cX12_suspects 0 = .ok (.aload_n 0, 1) := by decide +kernel
theorem dX12_suspects_1 : decode cX12_suspects 1 = .ok (.iload_n 1, 1) := by decide +kernel
theorem dX12_suspects_2 : decode cX12_suspects 2 = .ok (.iconst 1, 1) := by decide +kernel
theorem dX12_suspects_3 : decode cX12_suspects 3 = .ok (.invokevirtual 299, 3) := by decide +kernel
theorem dX12_suspects_6 : decode cX12_suspects 6 = .ok (.istore_n 2, 1) := by decide +kernel
theorem dX12_suspects_7 : decode cX12_suspects 7 = .ok (.iload_n 2, 1) := by decide +kernel
theorem dX12_suspects_8 : decode cX12_suspects 8 = .ok (.ifCond .ge 7, 3) := by decide +kernel
theorem dX12_suspects_11 : decode cX12_suspects 11 = .ok (.iload_n 2, 1) := by decide +kernel
theorem dX12_suspects_12 : decode cX12_suspects 12 = .ok (.goto 14, 3) := by decide +kernel
theorem dX12_suspects_15 : decode cX12_suspects 15 = .ok (.aload_n 0, 1) := by decide +kernel
theorem dX12_suspects_16 : decode cX12_suspects 16 = .ok (.iload_n 1, 1) := by decide +kernel
theorem dX12_suspects_17 : decode cX12_suspects 17 = .ok (.aload_n 0, 1) := by decide +kernel
theorem dX12_suspects_18 : decode cX12_suspects 18 = .ok (.getfield 49, 3) := by decide +kernel
theorem dX12_suspects_21 : decode cX12_suspects 21 = .ok (.iload_n 1, 1) := by decide +kernel
theorem dX12_suspects_22 : decode cX12_suspects 22 = .ok (.iaload, 1) := by decide +kernel
theorem dX12_suspects_23 : decode cX12_suspects 23 = .ok (.invokevirtual 386, 3) := by decide +kernel
theorem dX12_suspects_26 : decode cX12_suspects 26 = .ok (.ireturn, 1) := by decide +kernel
theorem dX12_suspectsOf_0 : decode cX12_suspectsOf 0 = .ok (.iconst 1, 1) := by decide +kernel
theorem dX12_suspectsOf_1 : decode cX12_suspectsOf 1 = .ok (.aload_n 0, 1) := by decide +kernel
theorem dX12_suspectsOf_2 : decode cX12_suspectsOf 2 = .ok (.getfield 9, 3) := by decide +kernel
theorem dX12_suspectsOf_5 : decode cX12_suspectsOf 5 = .ok (.bipush 7, 2) := by decide +kernel
theorem dX12_suspectsOf_7 : decode cX12_suspectsOf 7 = .ok (.iaload, 1) := by decide +kernel
theorem dX12_suspectsOf_8 : decode cX12_suspectsOf 8 = .ok (.ishl, 1) := by decide +kernel
theorem dX12_suspectsOf_9 : decode cX12_suspectsOf 9 = .ok (.iconst 1, 1) := by decide +kernel
theorem dX12_suspectsOf_10 : decode cX12_suspectsOf 10 = .ok (.isub, 1) := by decide +kernel
theorem dX12_suspectsOf_11 : decode cX12_suspectsOf 11 = .ok (.istore_n 3, 1) := by decide +kernel
theorem dX12_suspectsOf_12 : decode cX12_suspectsOf 12 = .ok (.aload_n 0, 1) := by decide +kernel
theorem dX12_suspectsOf_13 : decode cX12_suspectsOf 13 = .ok (.iconst 0, 1) := by decide +kernel
theorem dX12_suspectsOf_14 : decode cX12_suspectsOf 14 = .ok (.putfield 383, 3) := by decide +kernel
theorem dX12_suspectsOf_17 : decode cX12_suspectsOf 17 = .ok (.iconst 0, 1) := by decide +kernel
theorem dX12_suspectsOf_18 : decode cX12_suspectsOf 18 = .ok (.istore 4, 2) := by decide +kernel
theorem dX12_suspectsOf_20 : decode cX12_suspectsOf 20 = .ok (.iload 4, 2) := by decide +kernel
theorem dX12_suspectsOf_22 : decode cX12_suspectsOf 22 = .ok (.iload_n 2, 1) := by decide +kernel
theorem dX12_suspectsOf_23 : decode cX12_suspectsOf 23 = .ok (.if_icmp .ge 96, 3) := by decide +kernel
theorem dX12_suspectsOf_26 : decode cX12_suspectsOf 26 = .ok (.aload_n 0, 1) := by decide +kernel
theorem dX12_suspectsOf_27 : decode cX12_suspectsOf 27 = .ok (.iload_n 1, 1) := by decide +kernel
theorem dX12_suspectsOf_28 : decode cX12_suspectsOf 28 = .ok (.iload 4, 2) := by decide +kernel
theorem dX12_suspectsOf_30 : decode cX12_suspectsOf 30 = .ok (.invokevirtual 303, 3) := by decide +kernel
theorem dX12_suspectsOf_33 : decode cX12_suspectsOf 33 = .ok (.istore 5, 2) := by decide +kernel
theorem dX12_suspectsOf_35 : decode cX12_suspectsOf 35 = .ok (.iload 5, 2) := by decide +kernel
theorem dX12_suspectsOf_37 : decode cX12_suspectsOf 37 = .ok (.bipush 8, 2) := by decide +kernel
theorem dX12_suspectsOf_39 : decode cX12_suspectsOf 39 = .ok (.if_icmp .ne 6, 3) := by decide +kernel
theorem dX12_suspectsOf_42 : decode cX12_suspectsOf 42 = .ok (.goto 71, 3) := by decide +kernel
theorem dX12_suspectsOf_45 : decode cX12_suspectsOf 45 = .ok (.iconst 0, 1) := by decide +kernel
theorem dX12_suspectsOf_46 : decode cX12_suspectsOf 46 = .ok (.istore 6, 2) := by decide +kernel
theorem dX12_suspectsOf_48 : decode cX12_suspectsOf 48 = .ok (.iload 6, 2) := by decide +kernel
theorem dX12_suspectsOf_50 : decode cX12_suspectsOf 50 = .ok (.aload_n 0, 1) := by decide +kernel
theorem dX12_suspectsOf_51 : decode cX12_suspectsOf 51 = .ok (.getfield 9, 3) := by decide +kernel
theorem dX12_suspectsOf_54 : decode cX12_suspectsOf 54 = .ok (.bipush 7, 2) := by decide +kernel
theorem dX12_suspectsOf_56 : decode cX12_suspectsOf 56 = .ok (.iaload, 1) := by decide +kernel
theorem dX12_suspectsOf_57 : decode cX12_suspectsOf 57 = .ok (.if_icmp .ge 46, 3) := by decide +kernel
theorem dX12_suspectsOf_60 : decode cX12_suspectsOf 60 = .ok (.aload_n 0, 1) := by decide +kernel
theorem dX12_suspectsOf_61 : decode cX12_suspectsOf 61 = .ok (.getfield 383, 3) := by decide +kernel
theorem dX12_suspectsOf_64 : decode cX12_suspectsOf 64 = .ok (.aload_n 0, 1) := by decide +kernel
theorem dX12_suspectsOf_65 : decode cX12_suspectsOf 65 = .ok (.iload 6, 2) := by decide +kernel
theorem dX12_suspectsOf_67 : decode cX12_suspectsOf 67 = .ok (.invokevirtual 267, 3) := by decide +kernel
theorem dX12_suspectsOf_70 : decode cX12_suspectsOf 70 = .ok (.if_icmp .ge 18, 3) := by decide +kernel
theorem dX12_suspectsOf_73 : decode cX12_suspectsOf 73 = .ok (.aload_n 0, 1) := by decide +kernel
theorem dX12_suspectsOf_74 : decode cX12_suspectsOf 74 = .ok (.iload 6, 2) := by decide +kernel
theorem dX12_suspectsOf_76 : decode cX12_suspectsOf 76 = .ok (.aload_n 0, 1) := by decide +kernel
theorem dX12_suspectsOf_77 : decode cX12_suspectsOf 77 = .ok (.getfield 383, 3) := by decide +kernel
theorem dX12_suspectsOf_80 : decode cX12_suspectsOf 80 = .ok (.invokevirtual 270, 3) := by decide +kernel
theorem dX12_suspectsOf_83 : decode cX12_suspectsOf 83 = .ok (.iload 5, 2) := by decide +kernel
theorem dX12_suspectsOf_85 : decode cX12_suspectsOf 85 = .ok (.if_icmp .eq 12, 3) := by decide +kernel
theorem dX12_suspectsOf_88 : decode cX12_suspectsOf 88 = .ok (.iload_n 3, 1) := by decide +kernel
theorem dX12_suspectsOf_89 : decode cX12_suspectsOf 89 = .ok (.iconst 1, 1) := by decide +kernel
theorem dX12_suspectsOf_90 : decode cX12_suspectsOf 90 = .ok (.iload 6, 2) := by decide +kernel
theorem dX12_suspectsOf_92 : decode cX12_suspectsOf 92 = .ok (.ishl, 1) := by decide +kernel
theorem dX12_suspectsOf_93 : decode cX12_suspectsOf 93 = .ok (.iconst (-1), 1) := by decide +kernel
theorem dX12_suspectsOf_94 : decode cX12_suspectsOf 94 = .ok (.ixor, 1) := by decide +kernel
theorem dX12_suspectsOf_95 : decode cX12_suspectsOf 95 = .ok (.iand, 1) := by decide +kernel
theorem dX12_suspectsOf_96 : decode cX12_suspectsOf 96 = .ok (.istore_n 3, 1) := by decide +kernel
theorem dX12_suspectsOf_97 : decode cX12_suspectsOf 97 = .ok (.iinc 6 1, 3) := by decide +kernel
theorem dX12_suspectsOf_100 : decode cX12_suspectsOf 100 = .ok (.goto (-52), 3) := by decide +kernel
theorem dX12_suspectsOf_103 : decode cX12_suspectsOf 103 = .ok (.aload_n 0, 1) := by decide +kernel
theorem dX12_suspectsOf_104 : decode cX12_suspectsOf 104 = .ok (.dup, 1) := by decide +kernel
theorem dX12_suspectsOf_105 : decode cX12_suspectsOf 105 = .ok (.getfield 383, 3) := by decide +kernel
theorem dX12_suspectsOf_108 : decode cX12_suspectsOf 108 = .ok (.iconst 1, 1) := by decide +kernel
theorem dX12_suspectsOf_109 : decode cX12_suspectsOf 109 = .ok (.iadd, 1) := by decide +kernel
theorem dX12_suspectsOf_110 : decode cX12_suspectsOf 110 = .ok (.putfield 383, 3) := by decide +kernel
theorem dX12_suspectsOf_113 : decode cX12_suspectsOf 113 = .ok (.iinc 4 1, 3) := by decide +kernel
theorem dX12_suspectsOf_116 : decode cX12_suspectsOf 116 = .ok (.goto (-96), 3) := by decide +kernel
theorem dX12_suspectsOf_119 : decode cX12_suspectsOf 119 = .ok (.iload_n 3, 1) := by decide +kernel
theorem dX12_suspectsOf_120 : decode cX12_suspectsOf 120 = .ok (.ireturn, 1) := by decide +kernel
theorem nIt {x : Int32} (h : 0 ≤ x.toInt) : nI x.toInt.toNat = x := Int32.toInt_inj.mp (by have := fb_rng x; rw [nI_toInt (by omega)]; omega)
def rdF (f : Nat → Int32) (nm : Nat → Int64) (s : Int32) : Nat → Int32
  | 0 => asF f
  | k + 1 => if (tdF nm s (nI k)).toInt = 8 then rdF f nm s k &&& rdF f nm s k else rdF f nm s k &&& ofF f (tdF nm s (nI k))
theorem rd_1 {f : Nat → Int32} {nm : Nat → Int64} {s x i z j : Int32} (h : x = rdF f nm s i.toInt.toNat) (h0 : 0 ≤ i.toInt) (h1 : j.toInt = i.toInt + 1) (h8 : (tdF nm s i).toInt = 8) (hz : z = x &&& x) : z = rdF f nm s j.toInt.toNat := by
  rw [show j.toInt.toNat = i.toInt.toNat + 1 by omega, rdF, nIt h0, if_pos h8, hz, h]
theorem rd_2 {f : Nat → Int32} {nm : Nat → Int64} {s x i z j : Int32} (h : x = rdF f nm s i.toInt.toNat) (h0 : 0 ≤ i.toInt) (h1 : j.toInt = i.toInt + 1) (h8 : (tdF nm s i).toInt ≠ 8) (hz : z = x &&& ofF f (tdF nm s i)) : z = rdF f nm s j.toInt.toNat := by
  rw [show j.toInt.toNat = i.toInt.toNat + 1 by omega, rdF, nIt h0, if_neg h8, hz, h]
/-- the plans that fit: for one word, for a row -/
def suI (f : Nat → Int32) (w c x : Int32) : Nat → Int32
  | 0 => x
  | p + 1 => if (pmF f (nI p)).toInt ≤ c.toInt ∨ (pwF f (nI p) c).toInt ≠ w.toInt then suI f w c x p &&& (((1 : Int32) <<< (nI p &&& 31)) ^^^ -1) else suI f w c x p
def suS (f : Nat → Int32) (nm : Nat → Int64) (s : Int32) : Nat → Int32 × Int32
  | 0 => (((1 : Int32) <<< (f 7 &&& 31)) - 1, 0)
  | n + 1 => if (tdF nm s (nI n)).toInt = 8 then suS f nm s n else (suI f (tdF nm s (nI n)) (suS f nm s n).2 (suS f nm s n).1 (f 7).toInt.toNat, (suS f nm s n).2 + 1)
theorem su_1 {f : Nat → Int32} {w c a x p q z : Int32} (h : x = suI f w c a p.toInt.toNat) (h0 : 0 ≤ p.toInt) (h1 : q.toInt = p.toInt + 1) (hc : (pmF f p).toInt ≤ c.toInt ∨ (pwF f p c).toInt ≠ w.toInt) (hz : z = x &&& (((1 : Int32) <<< (p &&& 31)) ^^^ -1)) : z = suI f w c a q.toInt.toNat := by
  rw [show q.toInt.toNat = p.toInt.toNat + 1 by omega, suI, nIt h0, if_pos hc, hz, h]
theorem su_2 {f : Nat → Int32} {w c a x p q : Int32} (h : x = suI f w c a p.toInt.toNat) (h0 : 0 ≤ p.toInt) (h1 : q.toInt = p.toInt + 1) (hc : ¬ ((pmF f p).toInt ≤ c.toInt ∨ (pwF f p c).toInt ≠ w.toInt)) : x = suI f w c a q.toInt.toNat := by
  rw [show q.toInt.toNat = p.toInt.toNat + 1 by omega, suI, nIt h0, if_neg hc, h]
theorem su_3 {f : Nat → Int32} {nm : Nat → Int64} {s a c d e : Int32} (h1 : a = (suS f nm s d.toInt.toNat).1 ∧ c = (suS f nm s d.toInt.toNat).2) (h0 : 0 ≤ d.toInt) (hd : e.toInt = d.toInt + 1) (h8 : (tdF nm s d).toInt = 8) : a = (suS f nm s e.toInt.toNat).1 ∧ c = (suS f nm s e.toInt.toNat).2 := by
  rw [show e.toInt.toNat = d.toInt.toNat + 1 by omega, suS, nIt h0, if_pos h8]
  exact h1
theorem su_4 {f : Nat → Int32} {nm : Nat → Int64} {s a c d e x p z : Int32} (h1 : a = (suS f nm s d.toInt.toNat).1 ∧ c = (suS f nm s d.toInt.toNat).2) (h0 : 0 ≤ d.toInt) (hd : e.toInt = d.toInt + 1) (h8 : (tdF nm s d).toInt ≠ 8) (hx : x = suI f (tdF nm s d) c a p.toInt.toNat) (hp : p.toInt = (f 7).toInt) (hz : z = c + 1) : x = (suS f nm s e.toInt.toNat).1 ∧ z = (suS f nm s e.toInt.toNat).2 := by
  rw [show e.toInt.toNat = d.toInt.toNat + 1 by omega, suS, nIt h0, if_neg h8, ← h1.1, ← h1.2, hx, hp]
  exact ⟨rfl, hz⟩
