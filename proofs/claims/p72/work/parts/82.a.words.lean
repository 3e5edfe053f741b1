theorem b_1126 : Cond.methodLink RX12 147 yX12_is ∈ BIG := bi (tin_7 _ (List.mem_of_getElem? (i := 12) rfl)) rfl
theorem b_1127 : Cond.methodLink RX12 151 yX12_advance ∈ BIG := bi (tin_6 _ (List.mem_of_getElem? (i := 217) rfl)) rfl
theorem b_1128 : Cond.methodLink RX12 154 yX12_takes ∈ BIG := bi (tin_7 _ (List.mem_of_getElem? (i := 8) rfl)) rfl
theorem b_1129 : Cond.methodLink RX12 157 yX12_errs ∈ BIG := bi (tin_7 _ (List.mem_of_getElem? (i := 18) rfl)) rfl
theorem b_1130 : Cond.methodLink RX12 161 yX12_needs ∈ BIG := bi (tin_7 _ (List.mem_of_getElem? (i := 4) rfl)) rfl
theorem b_1131 : Cond.methodLink RX12 165 yX12_number ∈ BIG := bi (tin_7 _ (List.mem_of_getElem? (i := 27) rfl)) rfl
theorem b_1132 : Cond.fieldLink RX12 31 "GentleLettersModel" "fresh" "[I" ∈ BIG := bi (tin_6 _ (List.mem_of_getElem? (i := 115) rfl)) rfl
theorem b_1133 : Cond.code yX12_advance cX12_advance 2 none ∈ BIG := bi (tin_6 _ (List.mem_of_getElem? (i := 220) rfl)) rfl
theorem b_1134 : Cond.instanceMethod yX12_advance ∈ BIG := bi (tin_6 _ (List.mem_of_getElem? (i := 219) rfl)) rfl
theorem b_1135 : Cond.selects RX12 yX12_advance yX12_advance ∈ BIG := bi (sin_7 _ (List.mem_map.mpr ⟨(yX12_advance, 29), List.mem_of_getElem? (i := 5) rfl, rfl⟩)) rfl
theorem b_1136 : Cond.code yX12_errs cX12_errs 2 none ∈ BIG := bi (tin_7 _ (List.mem_of_getElem? (i := 21) rfl)) rfl
theorem b_1137 : Cond.instanceMethod yX12_errs ∈ BIG := bi (tin_7 _ (List.mem_of_getElem? (i := 20) rfl)) rfl
theorem b_1138 : Cond.selects RX12 yX12_errs yX12_errs ∈ BIG := bi (sin_7 _ (List.mem_map.mpr ⟨(yX12_errs, 29), List.mem_of_getElem? (i := 13) rfl, rfl⟩)) rfl
theorem b_1139 : Cond.code yX12_is cX12_is 4 (some .boolean) ∈ BIG := bi (tin_7 _ (List.mem_of_getElem? (i := 15) rfl)) rfl
theorem b_1140 : Cond.instanceMethod yX12_is ∈ BIG := bi (tin_7 _ (List.mem_of_getElem? (i := 14) rfl)) rfl
theorem b_1141 : Cond.selects RX12 yX12_is yX12_is ∈ BIG := bi (sin_7 _ (List.mem_map.mpr ⟨(yX12_is, 29), List.mem_of_getElem? (i := 12) rfl, rfl⟩)) rfl
theorem b_1142 : Cond.code yX12_needs cX12_needs 2 none ∈ BIG := bi (tin_7 _ (List.mem_of_getElem? (i := 7) rfl)) rfl
theorem b_1143 : Cond.instanceMethod yX12_needs ∈ BIG := bi (tin_7 _ (List.mem_of_getElem? (i := 6) rfl)) rfl
theorem b_1144 : Cond.selects RX12 yX12_needs yX12_needs ∈ BIG := bi (sin_7 _ (List.mem_map.mpr ⟨(yX12_needs, 29), List.mem_of_getElem? (i := 10) rfl, rfl⟩)) rfl
theorem b_1145 : Cond.code yX12_number cX12_number 4 (some .int) ∈ BIG := bi (tin_7 _ (List.mem_of_getElem? (i := 30) rfl)) rfl
theorem b_1146 : Cond.instanceMethod yX12_number ∈ BIG := bi (tin_7 _ (List.mem_of_getElem? (i := 29) rfl)) rfl
theorem b_1147 : Cond.selects RX12 yX12_number yX12_number ∈ BIG := bi (sin_7 _ (List.mem_map.mpr ⟨(yX12_number, 29), List.mem_of_getElem? (i := 15) rfl, rfl⟩)) rfl
theorem b_1148 : Cond.code yX12_takes cX12_takes 3 (some .boolean) ∈ BIG := bi (tin_7 _ (List.mem_of_getElem? (i := 11) rfl)) rfl
theorem b_1149 : Cond.instanceMethod yX12_takes ∈ BIG := bi (tin_7 _ (List.mem_of_getElem? (i := 10) rfl)) rfl
theorem b_1150 : Cond.selects RX12 yX12_takes yX12_takes ∈ BIG := bi (sin_7 _ (List.mem_map.mpr ⟨(yX12_takes, 29), List.mem_of_getElem? (i := 11) rfl, rfl⟩)) rfl
theorem m_yX12_advance : MV yX12_advance cX12_advance 2 none 0 := ⟨b_1133, b_1134, b_1135, b_810, by decide +kernel⟩
theorem m_yX12_errs : MV yX12_errs cX12_errs 2 none 1 := ⟨b_1136, b_1137, b_1138, b_810, by decide +kernel⟩
theorem m_yX12_is : MV yX12_is cX12_is 4 (some .boolean) 1 := ⟨b_1139, b_1140, b_1141, b_810, by decide +kernel⟩
theorem m_yX12_needs : MV yX12_needs cX12_needs 2 none 1 := ⟨b_1142, b_1143, b_1144, b_810, by decide +kernel⟩
theorem m_yX12_number : MV yX12_number cX12_number 4 (some .int) 2 := ⟨b_1145, b_1146, b_1147, b_810, by decide +kernel⟩
theorem m_yX12_takes : MV yX12_takes cX12_takes 3 (some .boolean) 1 := ⟨b_1148, b_1149, b_1150, b_810, by decide +kernel⟩
theorem dX12_freshState_0 : decode cX12_freshState 0 = .ok (.aload_n 0, 1) := by decide +kernel
theorem dX12_freshState_1 : decode cX12_freshState 1 = .ok (.iconst 0, 1) := by decide +kernel
theorem dX12_freshState_2 : decode cX12_freshState 2 = .ok (.aload_n 0, 1) := by decide +kernel
theorem dX12_freshState_3 : decode cX12_freshState 3 = .ok (.getfield 31, 3) := by decide +kernel
theorem dX12_freshState_6 : decode cX12_freshState 6 = .ok (.iconst 0, 1) := by decide +kernel
theorem dX12_freshState_7 : decode cX12_freshState 7 = .ok (.iaload, 1) := by decide +kernel
theorem dX12_freshState_8 : decode cX12_freshState 8 = .ok (.iconst 1, 1) := by decide +kernel
theorem dX12_freshState_9 : decode cX12_freshState 9 = .ok (.isub, 1) := by decide +kernel
theorem dX12_freshState_10 : decode cX12_freshState 10 = .ok (.invokevirtual 165, 3) := by decide +kernel
theorem dX12_freshState_13 : decode cX12_freshState 13 = .ok (.ireturn, 1) := by decide +kernel
theorem dX12_needs_0 : decode cX12_needs 0 = .ok (.aload_n 0, 1) := by decide +kernel
theorem dX12_needs_1 : decode cX12_needs 1 = .ok (.aload_n 1, 1) := by decide +kernel
theorem dX12_needs_2 : decode cX12_needs 2 = .ok (.invokevirtual 154, 3) := by decide +kernel
theorem dX12_needs_5 : decode cX12_needs 5 = .ok (.ifCond .ne 8, 3) := by decide +kernel
theorem dX12_needs_8 : decode cX12_needs 8 = .ok (.aload_n 0, 1) := by decide +kernel
theorem dX12_needs_9 : decode cX12_needs 9 = .ok (.iconst 1, 1) := by decide +kernel
theorem dX12_needs_10 : decode cX12_needs 10 = .ok (.invokevirtual 157, 3) := by decide +kernel
theorem dX12_needs_13 : decode cX12_needs 13 = .ok (.return_, 1) := by decide +kernel
theorem dX12_number_0 : decode cX12_number 0 = .ok (.aload_n 0, 1) := by decide +kernel
theorem dX12_number_1 : decode cX12_number 1 = .ok (.invokevirtual 135, 3) := by decide +kernel
theorem dX12_number_4 : decode cX12_number 4 = .ok (.ifCond .eq 16, 3) := by decide +kernel
theorem dX12_number_7 : decode cX12_number 7 = .ok (.aload_n 0, 1) := by decide +kernel
theorem dX12_number_8 : decode cX12_number 8 = .ok (.getfield 112, 3) := by decide +kernel
theorem dX12_number_11 : decode cX12_number 11 = .ok (.iconst 2, 1) := by decide +kernel
theorem dX12_number_12 : decode cX12_number 12 = .ok (.if_icmp .eq 8, 3) := by decide +kernel
theorem dX12_number_15 : decode cX12_number 15 = .ok (.aload_n 0, 1) := by decide +kernel
theorem dX12_number_16 : decode cX12_number 16 = .ok (.iconst 1, 1) := by decide +kernel
theorem dX12_number_17 : decode cX12_number 17 = .ok (.invokevirtual 157, 3) := by decide +kernel
theorem dX12_number_20 : decode cX12_number 20 = .ok (.aload_n 0, 1) := by decide +kernel
theorem dX12_number_21 : decode cX12_number 21 = .ok (.invokevirtual 135, 3) := by decide +kernel
theorem dX12_number_24 : decode cX12_number 24 = .ok (.ifCond .eq 23, 3) := by decide +kernel
theorem dX12_number_27 : decode cX12_number 27 = .ok (.aload_n 0, 1) := by decide +kernel
theorem dX12_number_28 : decode cX12_number 28 = .ok (.getfield 123, 3) := by decide +kernel
theorem dX12_number_31 : decode cX12_number 31 = .ok (.i2l, 1) := by decide +kernel
theorem dX12_number_32 : decode cX12_number 32 = .ok (.iload_n 1, 1) := by decide +kernel
theorem dX12_number_33 : decode cX12_number 33 = .ok (.i2l, 1) := by decide +kernel
theorem dX12_number_34 : decode cX12_number 34 = .ok (.iload_n 2, 1) := by decide +kernel
theorem dX12_number_35 : decode cX12_number 35 = .ok (.i2l, 1) := by decide +kernel
theorem dX12_number_36 : decode cX12_number 36 = .ok (.invokestatic 67, 3) := by decide +kernel
theorem dX12_number_39 : decode cX12_number 39 = .ok (.ifCond .ne 8, 3) := by decide +kernel
theorem dX12_number_42 : decode cX12_number 42 = .ok (.aload_n 0, 1) := by decide +kernel
theorem dX12_number_43 : decode cX12_number 43 = .ok (.iconst 2, 1) := by decide +kernel
theorem dX12_number_44 : decode cX12_number 44 = .ok (.invokevirtual 157, 3) := by decide +kernel
theorem dX12_number_47 : decode cX12_number 47 = .ok (.aload_n 0, 1) := by decide +kernel
theorem dX12_number_48 : decode cX12_number 48 = .ok (.invokevirtual 135, 3) := by decide +kernel
theorem dX12_number_51 : decode cX12_number 51 = .ok (.ifCond .ne 5, 3) := by decide +kernel
theorem dX12_number_54 : decode cX12_number 54 = .ok (.iconst 0, 1) := by decide +kernel
theorem dX12_number_55 : decode cX12_number 55 = .ok (.ireturn, 1) := by decide +kernel
theorem dX12_number_56 : decode cX12_number 56 = .ok (.aload_n 0, 1) := by decide +kernel
theorem dX12_number_57 : decode cX12_number 57 = .ok (.getfield 123, 3) := by decide +kernel
theorem dX12_number_60 : decode cX12_number 60 = .ok (.istore_n 3, 1) := by decide +kernel
theorem dX12_number_61 : decode cX12_number 61 = .ok (.aload_n 0, 1) := by decide +kernel
theorem dX12_number_62 : decode cX12_number 62 = .ok (.invokevirtual 151, 3) := by decide +kernel
theorem dX12_number_65 : decode cX12_number 65 = .ok (.iload_n 3, 1) := by decide +kernel
theorem dX12_number_66 : decode cX12_number 66 = .ok (.ireturn, 1) := by decide +kernel
theorem dX12_takes_0 : decode cX12_takes 0 = .ok (.aload_n 0, 1) := by decide +kernel
theorem dX12_takes_1 : decode cX12_takes 1 = .ok (.aload_n 1, 1) := by decide +kernel
theorem dX12_takes_2 : decode cX12_takes 2 = .ok (.invokevirtual 147, 3) := by decide +kernel
theorem dX12_takes_5 : decode cX12_takes 5 = .ok (.istore_n 2, 1) := by decide +kernel
theorem dX12_takes_6 : decode cX12_takes 6 = .ok (.iload_n 2, 1) := by decide +kernel
theorem dX12_takes_7 : decode cX12_takes 7 = .ok (.ifCond .eq 7, 3) := by decide +kernel
theorem dX12_takes_10 : decode cX12_takes 10 = .ok (.aload_n 0, 1) := by decide +kernel
theorem dX12_takes_11 : decode cX12_takes 11 = .ok (.invokevirtual 151, 3) := by decide +kernel
theorem dX12_takes_14 : decode cX12_takes 14 = .ok (.iload_n 2, 1) := by decide +kernel
theorem dX12_takes_15 : decode cX12_takes 15 = .ok (.ireturn, 1) := by decide +kernel
theorem dX12_told_0 : decode cX12_told 0 = .ok (.aload_n 0, 1) := by decide +kernel
theorem dX12_told_1 : decode cX12_told 1 = .ok (.aload_n 1, 1) := by decide +kernel
theorem dX12_told_2 : decode cX12_told 2 = .ok (.invokevirtual 161, 3) := by decide +kernel
theorem dX12_told_5 : decode cX12_told 5 = .ok (.aload_n 0, 1) := by decide +kernel
theorem dX12_told_6 : decode cX12_told 6 = .ok (.iload_n 2, 1) := by decide +kernel
theorem dX12_told_7 : decode cX12_told 7 = .ok (.iload_n 3, 1) := by decide +kernel
theorem dX12_told_8 : decode cX12_told 8 = .ok (.invokevirtual 165, 3) := by decide +kernel
theorem dX12_told_11 : decode cX12_told 11 = .ok (.ireturn, 1) := by decide +kernel
