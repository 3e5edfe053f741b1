theorem b_848 : Cond.methodLink RX12 85 yX12_statesOf ∈ BIG := bi (tin_7 _ (List.mem_of_getElem? (i := 111) rfl)) rfl
theorem b_849 : Cond.methodLink RX12 89 yX12_bit ∈ BIG := bi (tin_7 _ (List.mem_of_getElem? (i := 115) rfl)) rfl
theorem b_850 : Cond.methodLink RX12 93 yX12_isTrue ∈ BIG := bi (tin_7 _ (List.mem_of_getElem? (i := 107) rfl)) rfl
theorem b_851 : Cond.methodLink RX12 237 yX12_bits ∈ BIG := bi (tin_7 _ (List.mem_of_getElem? (i := 162) rfl)) rfl
theorem b_852 : Cond.methodLink RX12 234 yX12_thinksOf ∈ BIG := bi (tin_7 _ (List.mem_of_getElem? (i := 95) rfl)) rfl
theorem b_853 : Cond.methodLink RX12 240 yX12_meanOf ∈ BIG := bi (tin_7 _ (List.mem_of_getElem? (i := 158) rfl)) rfl
theorem b_854 : Cond.methodLink RX12 243 yX12_behindOf ∈ BIG := bi (tin_7 _ (List.mem_of_getElem? (i := 188) rfl)) rfl
theorem b_855 : Cond.methodLink RX12 246 yX12_rise ∈ BIG := bi (tin_7 _ (List.mem_of_getElem? (i := 200) rfl)) rfl
theorem b_856 : Cond.methodLink RX12 250 yJ9_max_7cf53 ∈ BIG := bi (tin_7 _ (List.mem_of_getElem? (i := 236) rfl)) rfl
theorem b_857 : Cond.constantLong RX12 253 (100) ∈ BIG := bi (tin_8 _ (List.mem_of_getElem? (i := 1) rfl)) rfl
theorem b_858 : Cond.code yX12_behindOf cX12_behindOf 4 (some .int) ∈ BIG := bi (tin_7 _ (List.mem_of_getElem? (i := 191) rfl)) rfl
theorem b_859 : Cond.instanceMethod yX12_behindOf ∈ BIG := bi (tin_7 _ (List.mem_of_getElem? (i := 190) rfl)) rfl
theorem b_860 : Cond.selects RX12 yX12_behindOf yX12_behindOf ∈ BIG := bi (sin_9 _ (List.mem_map.mpr ⟨(yX12_behindOf, 29), List.mem_of_getElem? (i := 7) rfl, rfl⟩)) rfl
theorem b_861 : Cond.code yX12_bit cX12_bit 2 (some .int) ∈ BIG := bi (tin_7 _ (List.mem_of_getElem? (i := 117) rfl)) rfl
theorem b_862 : Cond.static yX12_bit ∈ BIG := bi (tin_7 _ (List.mem_of_getElem? (i := 116) rfl)) rfl
theorem b_863 : Cond.code yX12_bits cX12_bits 3 (some .int) ∈ BIG := bi (tin_7 _ (List.mem_of_getElem? (i := 164) rfl)) rfl
theorem b_864 : Cond.static yX12_bits ∈ BIG := bi (tin_7 _ (List.mem_of_getElem? (i := 163) rfl)) rfl
theorem b_865 : Cond.code yX12_isTrue cX12_isTrue 2 (some .boolean) ∈ BIG := bi (tin_7 _ (List.mem_of_getElem? (i := 110) rfl)) rfl
theorem b_866 : Cond.instanceMethod yX12_isTrue ∈ BIG := bi (tin_7 _ (List.mem_of_getElem? (i := 109) rfl)) rfl
theorem b_867 : Cond.selects RX12 yX12_isTrue yX12_isTrue ∈ BIG := bi (sin_8 _ (List.mem_map.mpr ⟨(yX12_isTrue, 29), List.mem_of_getElem? (i := 12) rfl, rfl⟩)) rfl
theorem b_868 : Cond.code yX12_meanOf cX12_meanOf 7 (some .int) ∈ BIG := bi (tin_7 _ (List.mem_of_getElem? (i := 161) rfl)) rfl
theorem b_869 : Cond.instanceMethod yX12_meanOf ∈ BIG := bi (tin_7 _ (List.mem_of_getElem? (i := 160) rfl)) rfl
theorem b_870 : Cond.selects RX12 yX12_meanOf yX12_meanOf ∈ BIG := bi (sin_9 _ (List.mem_map.mpr ⟨(yX12_meanOf, 29), List.mem_of_getElem? (i := 4) rfl, rfl⟩)) rfl
theorem b_871 : Cond.code yX12_rise cX12_rise 5 (some .int) ∈ BIG := bi (tin_7 _ (List.mem_of_getElem? (i := 203) rfl)) rfl
theorem b_872 : Cond.instanceMethod yX12_rise ∈ BIG := bi (tin_7 _ (List.mem_of_getElem? (i := 202) rfl)) rfl
theorem b_873 : Cond.selects RX12 yX12_rise yX12_rise ∈ BIG := bi (sin_9 _ (List.mem_map.mpr ⟨(yX12_rise, 29), List.mem_of_getElem? (i := 9) rfl, rfl⟩)) rfl
theorem b_874 : Cond.code yX12_statesOf cX12_statesOf 2 (some .int) ∈ BIG := bi (tin_7 _ (List.mem_of_getElem? (i := 114) rfl)) rfl
theorem b_875 : Cond.instanceMethod yX12_statesOf ∈ BIG := bi (tin_7 _ (List.mem_of_getElem? (i := 113) rfl)) rfl
theorem b_876 : Cond.selects RX12 yX12_statesOf yX12_statesOf ∈ BIG := bi (sin_8 _ (List.mem_map.mpr ⟨(yX12_statesOf, 29), List.mem_of_getElem? (i := 13) rfl, rfl⟩)) rfl
theorem b_877 : Cond.code yX12_thinksOf cX12_thinksOf 3 (some .int) ∈ BIG := bi (tin_7 _ (List.mem_of_getElem? (i := 98) rfl)) rfl
theorem b_878 : Cond.instanceMethod yX12_thinksOf ∈ BIG := bi (tin_7 _ (List.mem_of_getElem? (i := 97) rfl)) rfl
theorem b_879 : Cond.selects RX12 yX12_thinksOf yX12_thinksOf ∈ BIG := bi (sin_8 _ (List.mem_map.mpr ⟨(yX12_thinksOf, 29), List.mem_of_getElem? (i := 10) rfl, rfl⟩)) rfl
theorem m_yX12_behindOf : MV yX12_behindOf cX12_behindOf 4 (some .int) 2 := ⟨b_858, b_859, b_860, b_810, by decide +kernel⟩
theorem m_yX12_bit : MS yX12_bit cX12_bit 2 (some .int) 2 := ⟨b_861, b_862, b_810, by decide +kernel⟩
theorem m_yX12_bits : MS yX12_bits cX12_bits 3 (some .int) 1 := ⟨b_863, b_864, b_810, by decide +kernel⟩
theorem m_yX12_isTrue : MV yX12_isTrue cX12_isTrue 2 (some .boolean) 1 := ⟨b_865, b_866, b_867, b_810, by decide +kernel⟩
theorem m_yX12_meanOf : MV yX12_meanOf cX12_meanOf 7 (some .int) 2 := ⟨b_868, b_869, b_870, b_810, by decide +kernel⟩
theorem m_yX12_rise : MV yX12_rise cX12_rise 5 (some .int) 3 := ⟨b_871, b_872, b_873, b_810, by decide +kernel⟩
theorem m_yX12_statesOf : MV yX12_statesOf cX12_statesOf 2 (some .int) 1 := ⟨b_874, b_875, b_876, b_810, by decide +kernel⟩
theorem m_yX12_thinksOf : MV yX12_thinksOf cX12_thinksOf 3 (some .int) 2 := ⟨b_877, b_878, b_879, b_810, by decide +kernel⟩
theorem dX12_behindOf_0 : decode cX12_behindOf 0 = .ok (.iload_n 2, 1) := by decide +kernel
theorem dX12_behindOf_1 : decode cX12_behindOf 1 = .ok (.bipush 8, 2) := by decide +kernel
theorem dX12_behindOf_3 : decode cX12_behindOf 3 = .ok (.if_icmp .ne 5, 3) := by decide +kernel
theorem dX12_behindOf_6 : decode cX12_behindOf 6 = .ok (.iload_n 1, 1) := by decide +kernel
theorem dX12_behindOf_7 : decode cX12_behindOf 7 = .ok (.ireturn, 1) := by decide +kernel
theorem dX12_behindOf_8 : decode cX12_behindOf 8 = .ok (.iload_n 1, 1) := by decide +kernel
theorem dX12_behindOf_9 : decode cX12_behindOf 9 = .ok (.aload_n 0, 1) := by decide +kernel
theorem dX12_behindOf_10 : decode cX12_behindOf 10 = .ok (.iload_n 2, 1) := by decide +kernel
theorem dX12_behindOf_11 : decode cX12_behindOf 11 = .ok (.invokevirtual 85, 3) := by decide +kernel
theorem dX12_behindOf_14 : decode cX12_behindOf 14 = .ok (.iand, 1) := by decide +kernel
theorem dX12_behindOf_15 : decode cX12_behindOf 15 = .ok (.istore_n 3, 1) := by decide +kernel
theorem dX12_behindOf_16 : decode cX12_behindOf 16 = .ok (.iload_n 3, 1) := by decide +kernel
theorem dX12_behindOf_17 : decode cX12_behindOf 17 = .ok (.ifCond .ne 11, 3) := by decide +kernel
theorem dX12_behindOf_20 : decode cX12_behindOf 20 = .ok (.aload_n 0, 1) := by decide +kernel
theorem dX12_behindOf_21 : decode cX12_behindOf 21 = .ok (.iload_n 2, 1) := by decide +kernel
theorem dX12_behindOf_22 : decode cX12_behindOf 22 = .ok (.invokevirtual 85, 3) := by decide +kernel
theorem dX12_behindOf_25 : decode cX12_behindOf 25 = .ok (.goto 4, 3) := by decide +kernel
theorem dX12_behindOf_28 : decode cX12_behindOf 28 = .ok (.iload_n 3, 1) := by decide +kernel
theorem dX12_behindOf_29 : decode cX12_behindOf 29 = .ok (.ireturn, 1) := by decide +kernel
theorem dX12_hurtOf_0 : decode cX12_hurtOf 0 = .ok (.aload_n 0, 1) := by decide +kernel
theorem dX12_hurtOf_1 : decode cX12_hurtOf 1 = .ok (.iload_n 1, 1) := by decide +kernel
theorem dX12_hurtOf_2 : decode cX12_hurtOf 2 = .ok (.iload_n 2, 1) := by decide +kernel
theorem dX12_hurtOf_3 : decode cX12_hurtOf 3 = .ok (.aload_n 0, 1) := by decide +kernel
theorem dX12_hurtOf_4 : decode cX12_hurtOf 4 = .ok (.iload_n 2, 1) := by decide +kernel
theorem dX12_hurtOf_5 : decode cX12_hurtOf 5 = .ok (.iload_n 3, 1) := by decide +kernel
theorem dX12_hurtOf_6 : decode cX12_hurtOf 6 = .ok (.invokevirtual 243, 3) := by decide +kernel
theorem dX12_hurtOf_9 : decode cX12_hurtOf 9 = .ok (.invokevirtual 246, 3) := by decide +kernel
theorem dX12_hurtOf_12 : decode cX12_hurtOf 12 = .ok (.ireturn, 1) := by decide +kernel
theorem dX12_isTrue_0 : decode cX12_isTrue 0 = .ok (.iload_n 1, 1) := by decide +kernel
theorem dX12_isTrue_1 : decode cX12_isTrue 1 = .ok (.bipush 8, 2) := by decide +kernel
theorem dX12_isTrue_3 : decode cX12_isTrue 3 = .ok (.if_icmp .eq 21, 3) := by decide +kernel
theorem dX12_isTrue_6 : decode cX12_isTrue 6 = .ok (.aload_n 0, 1) := by decide +kernel
theorem dX12_isTrue_7 : decode cX12_isTrue 7 = .ok (.iload_n 1, 1) := by decide +kernel
theorem dX12_isTrue_8 : decode cX12_isTrue 8 = .ok (.invokevirtual 85, 3) := by decide +kernel
theorem dX12_isTrue_11 : decode cX12_isTrue 11 = .ok (.aload_n 0, 1) := by decide +kernel
theorem dX12_isTrue_12 : decode cX12_isTrue 12 = .ok (.getfield 9, 3) := by decide +kernel
theorem dX12_isTrue_15 : decode cX12_isTrue 15 = .ok (.iconst 1, 1) := by decide +kernel
theorem dX12_isTrue_16 : decode cX12_isTrue 16 = .ok (.iaload, 1) := by decide +kernel
theorem dX12_isTrue_17 : decode cX12_isTrue 17 = .ok (.invokestatic 89, 3) := by decide +kernel
theorem dX12_isTrue_20 : decode cX12_isTrue 20 = .ok (.iconst 1, 1) := by decide +kernel
theorem dX12_isTrue_21 : decode cX12_isTrue 21 = .ok (.if_icmp .ne 7, 3) := by decide +kernel
theorem dX12_isTrue_24 : decode cX12_isTrue 24 = .ok (.iconst 1, 1) := by decide +kernel
theorem dX12_isTrue_25 : decode cX12_isTrue 25 = .ok (.goto 4, 3) := by decide +kernel
theorem dX12_isTrue_28 : decode cX12_isTrue 28 = .ok (.iconst 0, 1) := by decide +kernel
theorem dX12_isTrue_29 : decode cX12_isTrue 29 = .ok (.ireturn, 1) := by decide +kernel
theorem dX12_leftOf_0 : decode cX12_leftOf 0 = .ok (.iload_n 1, 1) := by decide +kernel
theorem dX12_leftOf_1 : decode cX12_leftOf 1 = .ok (.i2l, 1) := by decide +kernel
theorem dX12_leftOf_2 : decode cX12_leftOf 2 = .ok (.iconst 0, 1) := by decide +kernel
theorem dX12_leftOf_3 : decode cX12_leftOf 3 = .ok (.bipush 100, 2) := by decide +kernel
theorem dX12_leftOf_5 : decode cX12_leftOf 5 = .ok (.aload_n 0, 1) := by decide +kernel
theorem dX12_leftOf_6 : decode cX12_leftOf 6 = .ok (.getfield 9, 3) := by decide +kernel
theorem dX12_leftOf_9 : decode cX12_leftOf 9 = .ok (.iconst 3, 1) := by decide +kernel
theorem dX12_leftOf_10 : decode cX12_leftOf 10 = .ok (.iaload, 1) := by decide +kernel
theorem dX12_leftOf_11 : decode cX12_leftOf 11 = .ok (.iload_n 3, 1) := by decide +kernel
theorem dX12_leftOf_12 : decode cX12_leftOf 12 = .ok (.iconst 1, 1) := by decide +kernel
theorem dX12_leftOf_13 : decode cX12_leftOf 13 = .ok (.isub, 1) := by decide +kernel
theorem dX12_leftOf_14 : decode cX12_leftOf 14 = .ok (.iload_n 2, 1) := by decide +kernel
theorem dX12_leftOf_15 : decode cX12_leftOf 15 = .ok (.isub, 1) := by decide +kernel
theorem dX12_leftOf_16 : decode cX12_leftOf 16 = .ok (.imul, 1) := by decide +kernel
theorem dX12_leftOf_17 : decode cX12_leftOf 17 = .ok (.isub, 1) := by decide +kernel
theorem dX12_leftOf_18 : decode cX12_leftOf 18 = .ok (.invokestatic 250, 3) := by decide +kernel
theorem dX12_leftOf_21 : decode cX12_leftOf 21 = .ok (.i2l, 1) := by decide +kernel
theorem dX12_leftOf_22 : decode cX12_leftOf 22 = .ok (.lmul, 1) := by decide +kernel
theorem dX12_leftOf_23 : decode cX12_leftOf 23 = .ok (.ldc2_w 253, 3) := by decide +kernel
theorem dX12_leftOf_26 : decode cX12_leftOf 26 = .ok (.ldiv, 1) := by decide +kernel
theorem dX12_leftOf_27 : decode cX12_leftOf 27 = .ok (.l2i, 1) := by decide +kernel
theorem dX12_leftOf_28 : decode cX12_leftOf 28 = .ok (.ireturn, 1) := by decide +kernel
theorem dX12_meanOf_0 : decode cX12_meanOf 0 = .ok (.iconst 0, 1) := by decide +kernel
theorem dX12_meanOf_1 : decode cX12_meanOf 1 = .ok (.istore_n 3, 1) := by decide +kernel
theorem dX12_meanOf_2 : decode cX12_meanOf 2 = .ok (.iconst 0, 1) := by decide +kernel
theorem dX12_meanOf_3 : decode cX12_meanOf 3 = .ok (.istore 4, 2) := by decide +kernel
theorem dX12_meanOf_5 : decode cX12_meanOf 5 = .ok (.iconst 0, 1) := by decide +kernel
theorem dX12_meanOf_6 : decode cX12_meanOf 6 = .ok (.istore 5, 2) := by decide +kernel
theorem dX12_meanOf_8 : decode cX12_meanOf 8 = .ok (.iconst 0, 1) := by decide +kernel
theorem dX12_meanOf_9 : decode cX12_meanOf 9 = .ok (.istore 6, 2) := by decide +kernel
theorem dX12_meanOf_11 : decode cX12_meanOf 11 = .ok (.iload 6, 2) := by decide +kernel
theorem dX12_meanOf_13 : decode cX12_meanOf 13 = .ok (.aload_n 0, 1) := by decide +kernel
theorem dX12_meanOf_14 : decode cX12_meanOf 14 = .ok (.getfield 9, 3) := by decide +kernel
theorem dX12_meanOf_17 : decode cX12_meanOf 17 = .ok (.iconst 0, 1) := by decide +kernel
theorem dX12_meanOf_18 : decode cX12_meanOf 18 = .ok (.iaload, 1) := by decide +kernel
theorem dX12_meanOf_19 : decode cX12_meanOf 19 = .ok (.if_icmp .ge 69, 3) := by decide +kernel
theorem dX12_meanOf_22 : decode cX12_meanOf 22 = .ok (.iload_n 2, 1) := by decide +kernel
theorem dX12_meanOf_23 : decode cX12_meanOf 23 = .ok (.iload 6, 2) := by decide +kernel
theorem dX12_meanOf_25 : decode cX12_meanOf 25 = .ok (.invokestatic 89, 3) := by decide +kernel
theorem dX12_meanOf_28 : decode cX12_meanOf 28 = .ok (.ifCond .ne 6, 3) := by decide +kernel
theorem dX12_meanOf_31 : decode cX12_meanOf 31 = .ok (.goto 51, 3) := by decide +kernel
theorem dX12_meanOf_34 : decode cX12_meanOf 34 = .ok (.iload_n 3, 1) := by decide +kernel
theorem dX12_meanOf_35 : decode cX12_meanOf 35 = .ok (.aload_n 0, 1) := by decide +kernel
theorem dX12_meanOf_36 : decode cX12_meanOf 36 = .ok (.getfield 9, 3) := by decide +kernel
theorem dX12_meanOf_39 : decode cX12_meanOf 39 = .ok (.bipush 11, 2) := by decide +kernel
theorem dX12_meanOf_41 : decode cX12_meanOf 41 = .ok (.iload 6, 2) := by decide +kernel
theorem dX12_meanOf_43 : decode cX12_meanOf 43 = .ok (.iadd, 1) := by decide +kernel
theorem dX12_meanOf_44 : decode cX12_meanOf 44 = .ok (.iaload, 1) := by decide +kernel
theorem dX12_meanOf_45 : decode cX12_meanOf 45 = .ok (.aload_n 0, 1) := by decide +kernel
theorem dX12_meanOf_46 : decode cX12_meanOf 46 = .ok (.iload_n 1, 1) := by decide +kernel
theorem dX12_meanOf_47 : decode cX12_meanOf 47 = .ok (.iload 6, 2) := by decide +kernel
theorem dX12_meanOf_49 : decode cX12_meanOf 49 = .ok (.invokevirtual 234, 3) := by decide +kernel
theorem dX12_meanOf_52 : decode cX12_meanOf 52 = .ok (.imul, 1) := by decide +kernel
theorem dX12_meanOf_53 : decode cX12_meanOf 53 = .ok (.iadd, 1) := by decide +kernel
theorem dX12_meanOf_54 : decode cX12_meanOf 54 = .ok (.istore_n 3, 1) := by decide +kernel
theorem dX12_meanOf_55 : decode cX12_meanOf 55 = .ok (.iload 4, 2) := by decide +kernel
theorem dX12_meanOf_57 : decode cX12_meanOf 57 = .ok (.aload_n 0, 1) := by decide +kernel
theorem dX12_meanOf_58 : decode cX12_meanOf 58 = .ok (.iload_n 1, 1) := by decide +kernel
theorem dX12_meanOf_59 : decode cX12_meanOf 59 = .ok (.iload 6, 2) := by decide +kernel
theorem dX12_meanOf_61 : decode cX12_meanOf 61 = .ok (.invokevirtual 234, 3) := by decide +kernel
theorem dX12_meanOf_64 : decode cX12_meanOf 64 = .ok (.iadd, 1) := by decide +kernel
theorem dX12_meanOf_65 : decode cX12_meanOf 65 = .ok (.istore 4, 2) := by decide +kernel
theorem dX12_meanOf_67 : decode cX12_meanOf 67 = .ok (.iload 5, 2) := by decide +kernel
theorem dX12_meanOf_69 : decode cX12_meanOf 69 = .ok (.aload_n 0, 1) := by decide +kernel
theorem dX12_meanOf_70 : decode cX12_meanOf 70 = .ok (.getfield 9, 3) := by decide +kernel
theorem dX12_meanOf_73 : decode cX12_meanOf 73 = .ok (.bipush 11, 2) := by decide +kernel
theorem dX12_meanOf_75 : decode cX12_meanOf 75 = .ok (.iload 6, 2) := by decide +kernel
theorem dX12_meanOf_77 : decode cX12_meanOf 77 = .ok (.iadd, 1) := by decide +kernel
theorem dX12_meanOf_78 : decode cX12_meanOf 78 = .ok (.iaload, 1) := by decide +kernel
theorem dX12_meanOf_79 : decode cX12_meanOf 79 = .ok (.iadd, 1) := by decide +kernel
theorem dX12_meanOf_80 : decode cX12_meanOf 80 = .ok (.istore 5, 2) := by decide +kernel
theorem dX12_meanOf_82 : decode cX12_meanOf 82 = .ok (.iinc 6 1, 3) := by decide +kernel
theorem dX12_meanOf_85 : decode cX12_meanOf 85 = .ok (.goto (-74), 3) := by decide +kernel
theorem dX12_meanOf_88 : decode cX12_meanOf 88 = .ok (.iload 4, 2) := by decide +kernel
theorem dX12_meanOf_90 : decode cX12_meanOf 90 = .ok (.ifCond .le 13, 3) := by decide +kernel
theorem dX12_meanOf_93 : decode cX12_meanOf 93 = .ok (.bipush 100, 2) := by decide +kernel
theorem dX12_meanOf_95 : decode cX12_meanOf 95 = .ok (.iload_n 3, 1) := by decide +kernel
theorem dX12_meanOf_96 : decode cX12_meanOf 96 = .ok (.imul, 1) := by decide +kernel
theorem dX12_meanOf_97 : decode cX12_meanOf 97 = .ok (.iload 4, 2) := by decide +kernel
theorem dX12_meanOf_99 : decode cX12_meanOf 99 = .ok (.idiv, 1) := by decide +kernel
theorem dX12_meanOf_100 : decode cX12_meanOf 100 = .ok (.goto 13, 3) := by decide +kernel
theorem dX12_meanOf_103 : decode cX12_meanOf 103 = .ok (.bipush 100, 2) := by decide +kernel
theorem dX12_meanOf_105 : decode cX12_meanOf 105 = .ok (.iload 5, 2) := by decide +kernel
theorem dX12_meanOf_107 : decode cX12_meanOf 107 = .ok (.imul, 1) := by decide +kernel
theorem dX12_meanOf_108 : decode cX12_meanOf 108 = .ok (.iload_n 2, 1) := by decide +kernel
theorem dX12_meanOf_109 : decode cX12_meanOf 109 = .ok (.invokestatic 237, 3) := by decide +kernel
theorem dX12_meanOf_112 : decode cX12_meanOf 112 = .ok (.idiv, 1) := by decide +kernel
theorem dX12_meanOf_113 : decode cX12_meanOf 113 = .ok (.ireturn, 1) := by decide +kernel
theorem dX12_mixed_0 : decode cX12_mixed 0 = .ok (.aload_n 0, 1) := by decide +kernel
theorem dX12_mixed_1 : decode cX12_mixed 1 = .ok (.getfield 9, 3) := by decide +kernel
theorem dX12_mixed_4 : decode cX12_mixed 4 = .ok (.iconst 4, 1) := by decide +kernel
theorem dX12_mixed_5 : decode cX12_mixed 5 = .ok (.iaload, 1) := by decide +kernel
theorem dX12_mixed_6 : decode cX12_mixed 6 = .ok (.i2l, 1) := by decide +kernel
theorem dX12_mixed_7 : decode cX12_mixed 7 = .ok (.iload_n 1, 1) := by decide +kernel
theorem dX12_mixed_8 : decode cX12_mixed 8 = .ok (.i2l, 1) := by decide +kernel
theorem dX12_mixed_9 : decode cX12_mixed 9 = .ok (.lmul, 1) := by decide +kernel
theorem dX12_mixed_10 : decode cX12_mixed 10 = .ok (.ldc2_w 253, 3) := by decide +kernel
theorem dX12_mixed_13 : decode cX12_mixed 13 = .ok (.aload_n 0, 1) := by decide +kernel
theorem dX12_mixed_14 : decode cX12_mixed 14 = .ok (.getfield 9, 3) := by decide +kernel
theorem dX12_mixed_17 : decode cX12_mixed 17 = .ok (.iconst 4, 1) := by decide +kernel
theorem dX12_mixed_18 : decode cX12_mixed 18 = .ok (.iaload, 1) := by decide +kernel
theorem dX12_mixed_19 : decode cX12_mixed 19 = .ok (.i2l, 1) := by decide +kernel
theorem dX12_mixed_20 : decode cX12_mixed 20 = .ok (.lsub, 1) := by decide +kernel
theorem dX12_mixed_21 : decode cX12_mixed 21 = .ok (.iload_n 2, 1) := by decide +kernel
theorem dX12_mixed_22 : decode cX12_mixed 22 = .ok (.i2l, 1) := by decide +kernel
theorem dX12_mixed_23 : decode cX12_mixed 23 = .ok (.lmul, 1) := by decide +kernel
theorem dX12_mixed_24 : decode cX12_mixed 24 = .ok (.ladd, 1) := by decide +kernel
theorem dX12_mixed_25 : decode cX12_mixed 25 = .ok (.ldc2_w 253, 3) := by decide +kernel
theorem dX12_mixed_28 : decode cX12_mixed 28 = .ok (.ldiv, 1) := by decide +kernel
theorem dX12_mixed_29 : decode cX12_mixed 29 = .ok (.l2i, 1) := by decide +kernel
theorem dX12_mixed_30 : decode cX12_mixed 30 = .ok (.ireturn, 1) := by decide +kernel
theorem dX12_planMany_0 : decode cX12_planMany 0 = .ok (.aload_n 0, 1) := by decide +kernel
theorem dX12_planMany_1 : decode cX12_planMany 1 = .ok (.getfield 9, 3) := by decide +kernel
theorem dX12_planMany_4 : decode cX12_planMany 4 = .ok (.bipush 71, 2) := by decide +kernel
theorem dX12_planMany_6 : decode cX12_planMany 6 = .ok (.bipush 6, 2) := by decide +kernel
theorem dX12_planMany_8 : decode cX12_planMany 8 = .ok (.iload_n 1, 1) := by decide +kernel
theorem dX12_planMany_9 : decode cX12_planMany 9 = .ok (.imul, 1) := by decide +kernel
theorem dX12_planMany_10 : decode cX12_planMany 10 = .ok (.iadd, 1) := by decide +kernel
theorem dX12_planMany_11 : decode cX12_planMany 11 = .ok (.iaload, 1) := by decide +kernel
theorem dX12_planMany_12 : decode cX12_planMany 12 = .ok (.ireturn, 1) := by decide +kernel
theorem dX12_planWord_0 : decode cX12_planWord 0 = .ok (.aload_n 0, 1) := by decide +kernel
theorem dX12_planWord_1 : decode cX12_planWord 1 = .ok (.getfield 9, 3) := by decide +kernel
theorem dX12_planWord_4 : decode cX12_planWord 4 = .ok (.bipush 71, 2) := by decide +kernel
theorem dX12_planWord_6 : decode cX12_planWord 6 = .ok (.bipush 6, 2) := by decide +kernel
theorem dX12_planWord_8 : decode cX12_planWord 8 = .ok (.iload_n 1, 1) := by decide +kernel
theorem dX12_planWord_9 : decode cX12_planWord 9 = .ok (.imul, 1) := by decide +kernel
theorem dX12_planWord_10 : decode cX12_planWord 10 = .ok (.iadd, 1) := by decide +kernel
theorem dX12_planWord_11 : decode cX12_planWord 11 = .ok (.iconst 1, 1) := by decide +kernel
theorem dX12_planWord_12 : decode cX12_planWord 12 = .ok (.iadd, 1) := by decide +kernel
theorem dX12_planWord_13 : decode cX12_planWord 13 = .ok (.iload_n 2, 1) := by decide +kernel
theorem dX12_planWord_14 : decode cX12_planWord 14 = .ok (.iadd, 1) := by decide +kernel
theorem dX12_planWord_15 : decode cX12_planWord 15 = .ok (.iaload, 1) := by decide +kernel
theorem dX12_planWord_16 : decode cX12_planWord 16 = .ok (.ireturn, 1) := by decide +kernel
theorem dX12_reckonsOf_0 : decode cX12_reckonsOf 0 = .ok (.aload_n 0, 1) := by decide +kernel
theorem dX12_reckonsOf_1 : decode cX12_reckonsOf 1 = .ok (.getfield 9, 3) := by decide +kernel
theorem dX12_reckonsOf_4 : decode cX12_reckonsOf 4 = .ok (.bipush 19, 2) := by decide +kernel
theorem dX12_reckonsOf_6 : decode cX12_reckonsOf 6 = .ok (.bipush 9, 2) := by decide +kernel
theorem dX12_reckonsOf_8 : decode cX12_reckonsOf 8 = .ok (.iload_n 1, 1) := by decide +kernel
theorem dX12_reckonsOf_9 : decode cX12_reckonsOf 9 = .ok (.imul, 1) := by decide +kernel
theorem dX12_reckonsOf_10 : decode cX12_reckonsOf 10 = .ok (.iadd, 1) := by decide +kernel
theorem dX12_reckonsOf_11 : decode cX12_reckonsOf 11 = .ok (.bipush 8, 2) := by decide +kernel
theorem dX12_reckonsOf_13 : decode cX12_reckonsOf 13 = .ok (.iadd, 1) := by decide +kernel
theorem dX12_reckonsOf_14 : decode cX12_reckonsOf 14 = .ok (.iaload, 1) := by decide +kernel
theorem dX12_reckonsOf_15 : decode cX12_reckonsOf 15 = .ok (.ireturn, 1) := by decide +kernel
theorem dX12_rise_0 : decode cX12_rise 0 = .ok (.aload_n 0, 1) := by decide +kernel
theorem dX12_rise_1 : decode cX12_rise 1 = .ok (.iload_n 1, 1) := by decide +kernel
theorem dX12_rise_2 : decode cX12_rise 2 = .ok (.iload_n 3, 1) := by decide +kernel
theorem dX12_rise_3 : decode cX12_rise 3 = .ok (.invokevirtual 240, 3) := by decide +kernel
theorem dX12_rise_6 : decode cX12_rise 6 = .ok (.aload_n 0, 1) := by decide +kernel
theorem dX12_rise_7 : decode cX12_rise 7 = .ok (.iload_n 1, 1) := by decide +kernel
theorem dX12_rise_8 : decode cX12_rise 8 = .ok (.iload_n 2, 1) := by decide +kernel
theorem dX12_rise_9 : decode cX12_rise 9 = .ok (.invokevirtual 240, 3) := by decide +kernel
theorem dX12_rise_12 : decode cX12_rise 12 = .ok (.isub, 1) := by decide +kernel
theorem dX12_rise_13 : decode cX12_rise 13 = .ok (.istore 4, 2) := by decide +kernel
theorem dX12_rise_15 : decode cX12_rise 15 = .ok (.iload 4, 2) := by decide +kernel
theorem dX12_rise_17 : decode cX12_rise 17 = .ok (.ifCond .le 14, 3) := by decide +kernel
theorem dX12_rise_20 : decode cX12_rise 20 = .ok (.iload 4, 2) := by decide +kernel
theorem dX12_rise_22 : decode cX12_rise 22 = .ok (.iload 4, 2) := by decide +kernel
theorem dX12_rise_24 : decode cX12_rise 24 = .ok (.imul, 1) := by decide +kernel
theorem dX12_rise_25 : decode cX12_rise 25 = .ok (.bipush 100, 2) := by decide +kernel
theorem dX12_rise_27 : decode cX12_rise 27 = .ok (.idiv, 1) := by decide +kernel
theorem dX12_rise_28 : decode cX12_rise 28 = .ok (.goto 4, 3) := by decide +kernel
theorem dX12_rise_31 : decode cX12_rise 31 = .ok (.iconst 0, 1) := by decide +kernel
theorem dX12_rise_32 : decode cX12_rise 32 = .ok (.ireturn, 1) := by decide +kernel
theorem dX12_shameOf_0 : decode cX12_shameOf 0 = .ok (.aload_n 0, 1) := by decide +kernel
theorem dX12_shameOf_1 : decode cX12_shameOf 1 = .ok (.iload_n 1, 1) := by decide +kernel
theorem dX12_shameOf_2 : decode cX12_shameOf 2 = .ok (.invokevirtual 93, 3) := by decide +kernel
theorem dX12_shameOf_5 : decode cX12_shameOf 5 = .ok (.ifCond .eq 7, 3) := by decide +kernel
theorem dX12_shameOf_8 : decode cX12_shameOf 8 = .ok (.iconst 0, 1) := by decide +kernel
theorem dX12_shameOf_9 : decode cX12_shameOf 9 = .ok (.goto 16, 3) := by decide +kernel
theorem dX12_shameOf_12 : decode cX12_shameOf 12 = .ok (.aload_n 0, 1) := by decide +kernel
theorem dX12_shameOf_13 : decode cX12_shameOf 13 = .ok (.getfield 9, 3) := by decide +kernel
theorem dX12_shameOf_16 : decode cX12_shameOf 16 = .ok (.bipush 55, 2) := by decide +kernel
theorem dX12_shameOf_18 : decode cX12_shameOf 18 = .ok (.iconst 2, 1) := by decide +kernel
theorem dX12_shameOf_19 : decode cX12_shameOf 19 = .ok (.iload_n 1, 1) := by decide +kernel
theorem dX12_shameOf_20 : decode cX12_shameOf 20 = .ok (.imul, 1) := by decide +kernel
theorem dX12_shameOf_21 : decode cX12_shameOf 21 = .ok (.iadd, 1) := by decide +kernel
theorem dX12_shameOf_22 : decode cX12_shameOf 22 = .ok (.iconst 0, 1) := by decide +kernel
theorem dX12_shameOf_23 : decode cX12_shameOf 23 = .ok (.iadd, 1) := by decide +kernel
theorem dX12_shameOf_24 : decode cX12_shameOf 24 = .ok (.iaload, 1) := by decide +kernel
theorem dX12_shameOf_25 : decode cX12_shameOf 25 = .ok (.ireturn, 1) := by decide +kernel
theorem dX12_statesOf_0 : decode cX12_statesOf 0 = .ok (.aload_n 0, 1) := by decide +kernel
theorem dX12_statesOf_1 : decode cX12_statesOf 1 = .ok (.getfield 9, 3) := by decide +kernel
theorem dX12_statesOf_4 : decode cX12_statesOf 4 = .ok (.bipush 55, 2) := by decide +kernel
theorem dX12_statesOf_6 : decode cX12_statesOf 6 = .ok (.iconst 2, 1) := by decide +kernel
theorem dX12_statesOf_7 : decode cX12_statesOf 7 = .ok (.iload_n 1, 1) := by decide +kernel
theorem dX12_statesOf_8 : decode cX12_statesOf 8 = .ok (.imul, 1) := by decide +kernel
theorem dX12_statesOf_9 : decode cX12_statesOf 9 = .ok (.iadd, 1) := by decide +kernel
theorem dX12_statesOf_10 : decode cX12_statesOf 10 = .ok (.iconst 1, 1) := by decide +kernel
theorem dX12_statesOf_11 : decode cX12_statesOf 11 = .ok (.iadd, 1) := by decide +kernel
theorem dX12_statesOf_12 : decode cX12_statesOf 12 = .ok (.iaload, 1) := by decide +kernel
theorem dX12_statesOf_13 : decode cX12_statesOf 13 = .ok (.ireturn, 1) := by decide +kernel
theorem dX12_thinksOf_0 : decode cX12_thinksOf 0 = .ok (.aload_n 0, 1) := by decide +kernel
theorem dX12_thinksOf_1 : decode cX12_thinksOf 1 = .ok (.getfield 9, 3) := by decide +kernel
theorem dX12_thinksOf_4 : decode cX12_thinksOf 4 = .ok (.bipush 19, 2) := by decide +kernel
theorem dX12_thinksOf_6 : decode cX12_thinksOf 6 = .ok (.bipush 9, 2) := by decide +kernel
theorem dX12_thinksOf_8 : decode cX12_thinksOf 8 = .ok (.iload_n 1, 1) := by decide +kernel
theorem dX12_thinksOf_9 : decode cX12_thinksOf 9 = .ok (.imul, 1) := by decide +kernel
theorem dX12_thinksOf_10 : decode cX12_thinksOf 10 = .ok (.iadd, 1) := by decide +kernel
theorem dX12_thinksOf_11 : decode cX12_thinksOf 11 = .ok (.iload_n 2, 1) := by decide +kernel
theorem dX12_thinksOf_12 : decode cX12_thinksOf 12 = .ok (.iadd, 1) := by decide +kernel
theorem dX12_thinksOf_13 : decode cX12_thinksOf 13 = .ok (.iaload, 1) := by decide +kernel
theorem dX12_thinksOf_14 : decode cX12_thinksOf 14 = .ok (.ireturn, 1) := by decide +kernel
