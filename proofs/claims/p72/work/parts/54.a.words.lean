theorem b_880 : Cond.methodLink RX12 255 yX12_isState ∈ BIG := bi (tin_7 _ (List.mem_of_getElem? (i := 79) rfl)) rfl
theorem b_881 : Cond.methodLink RX12 258 yX12_isHearer ∈ BIG := bi (tin_7 _ (List.mem_of_getElem? (i := 87) rfl)) rfl
theorem b_882 : Cond.methodLink RX12 261 yX12_reckonsOf ∈ BIG := bi (tin_7 _ (List.mem_of_getElem? (i := 91) rfl)) rfl
theorem b_883 : Cond.constantLong RX12 65 (2) ∈ BIG := bi (tin_6 _ (List.mem_of_getElem? (i := 193) rfl)) rfl
theorem b_884 : Cond.methodLink RX12 273 yX12_isBelief ∈ BIG := bi (tin_7 _ (List.mem_of_getElem? (i := 146) rfl)) rfl
theorem b_885 : Cond.fieldLink RX12 27 "GentleLettersModel" "faultPlace" "I" ∈ BIG := bi (tin_6 _ (List.mem_of_getElem? (i := 114) rfl)) rfl
theorem b_886 : Cond.fieldLink RX12 132 "GentleLettersModel" "faultKind" "I" ∈ BIG := bi (tin_6 _ (List.mem_of_getElem? (i := 113) rfl)) rfl
theorem b_887 : Cond.methodLink RX12 264 yX12_isPlan ∈ BIG := bi (tin_7 _ (List.mem_of_getElem? (i := 122) rfl)) rfl
theorem b_888 : Cond.methodLink RX12 267 yX12_planMany ∈ BIG := bi (tin_7 _ (List.mem_of_getElem? (i := 126) rfl)) rfl
theorem b_889 : Cond.methodLink RX12 270 yX12_planWord ∈ BIG := bi (tin_7 _ (List.mem_of_getElem? (i := 130) rfl)) rfl
theorem b_890 : Cond.methodLink RX12 276 yX12_divisor ∈ BIG := bi (tin_7 _ (List.mem_of_getElem? (i := 176) rfl)) rfl
theorem b_891 : Cond.methodLink RX12 283 yX12_part ∈ BIG := bi (tin_7 _ (List.mem_of_getElem? (i := 173) rfl)) rfl
theorem b_892 : Cond.methodLink RX12 279 yX12_chanceOf ∈ BIG := bi (tin_7 _ (List.mem_of_getElem? (i := 169) rfl)) rfl
theorem b_893 : Cond.methodLink RX12 286 yX12_isTold ∈ BIG := bi (tin_7 _ (List.mem_of_getElem? (i := 183) rfl)) rfl
theorem b_894 : Cond.methodLink RX12 289 yX12_hurtOf ∈ BIG := bi (tin_7 _ (List.mem_of_getElem? (i := 196) rfl)) rfl
theorem b_895 : Cond.code yX12_chanceOf cX12_chanceOf 7 (some .int) ∈ BIG := bi (tin_7 _ (List.mem_of_getElem? (i := 172) rfl)) rfl
theorem b_896 : Cond.instanceMethod yX12_chanceOf ∈ BIG := bi (tin_7 _ (List.mem_of_getElem? (i := 171) rfl)) rfl
theorem b_897 : Cond.selects RX12 yX12_chanceOf yX12_chanceOf ∈ BIG := bi (sin_9 _ (List.mem_map.mpr ⟨(yX12_chanceOf, 29), List.mem_of_getElem? (i := 5) rfl, rfl⟩)) rfl
theorem b_898 : Cond.code yX12_divisor cX12_divisor 5 (some .int) ∈ BIG := bi (tin_7 _ (List.mem_of_getElem? (i := 178) rfl)) rfl
theorem b_899 : Cond.static yX12_divisor ∈ BIG := bi (tin_7 _ (List.mem_of_getElem? (i := 177) rfl)) rfl
theorem b_900 : Cond.code yX12_hurtOf cX12_hurtOf 4 (some .int) ∈ BIG := bi (tin_7 _ (List.mem_of_getElem? (i := 199) rfl)) rfl
theorem b_901 : Cond.instanceMethod yX12_hurtOf ∈ BIG := bi (tin_7 _ (List.mem_of_getElem? (i := 198) rfl)) rfl
theorem b_902 : Cond.selects RX12 yX12_hurtOf yX12_hurtOf ∈ BIG := bi (sin_9 _ (List.mem_map.mpr ⟨(yX12_hurtOf, 29), List.mem_of_getElem? (i := 8) rfl, rfl⟩)) rfl
theorem b_903 : Cond.code yX12_isBelief cX12_isBelief 2 (some .boolean) ∈ BIG := bi (tin_7 _ (List.mem_of_getElem? (i := 149) rfl)) rfl
theorem b_904 : Cond.instanceMethod yX12_isBelief ∈ BIG := bi (tin_7 _ (List.mem_of_getElem? (i := 148) rfl)) rfl
theorem b_905 : Cond.selects RX12 yX12_isBelief yX12_isBelief ∈ BIG := bi (sin_9 _ (List.mem_map.mpr ⟨(yX12_isBelief, 29), List.mem_of_getElem? (i := 1) rfl, rfl⟩)) rfl
theorem b_906 : Cond.code yX12_isHearer cX12_isHearer 2 (some .boolean) ∈ BIG := bi (tin_7 _ (List.mem_of_getElem? (i := 90) rfl)) rfl
theorem b_907 : Cond.instanceMethod yX12_isHearer ∈ BIG := bi (tin_7 _ (List.mem_of_getElem? (i := 89) rfl)) rfl
theorem b_908 : Cond.selects RX12 yX12_isHearer yX12_isHearer ∈ BIG := bi (sin_8 _ (List.mem_map.mpr ⟨(yX12_isHearer, 29), List.mem_of_getElem? (i := 8) rfl, rfl⟩)) rfl
theorem b_909 : Cond.code yX12_isPlan cX12_isPlan 2 (some .boolean) ∈ BIG := bi (tin_7 _ (List.mem_of_getElem? (i := 125) rfl)) rfl
theorem b_910 : Cond.instanceMethod yX12_isPlan ∈ BIG := bi (tin_7 _ (List.mem_of_getElem? (i := 124) rfl)) rfl
theorem b_911 : Cond.selects RX12 yX12_isPlan yX12_isPlan ∈ BIG := bi (sin_8 _ (List.mem_map.mpr ⟨(yX12_isPlan, 29), List.mem_of_getElem? (i := 14) rfl, rfl⟩)) rfl
theorem b_912 : Cond.code yX12_isState cX12_isState 2 (some .boolean) ∈ BIG := bi (tin_7 _ (List.mem_of_getElem? (i := 82) rfl)) rfl
theorem b_913 : Cond.instanceMethod yX12_isState ∈ BIG := bi (tin_7 _ (List.mem_of_getElem? (i := 81) rfl)) rfl
theorem b_914 : Cond.selects RX12 yX12_isState yX12_isState ∈ BIG := bi (sin_8 _ (List.mem_map.mpr ⟨(yX12_isState, 29), List.mem_of_getElem? (i := 7) rfl, rfl⟩)) rfl
theorem b_915 : Cond.code yX12_isTold cX12_isTold 3 (some .boolean) ∈ BIG := bi (tin_7 _ (List.mem_of_getElem? (i := 186) rfl)) rfl
theorem b_916 : Cond.instanceMethod yX12_isTold ∈ BIG := bi (tin_7 _ (List.mem_of_getElem? (i := 185) rfl)) rfl
theorem b_917 : Cond.selects RX12 yX12_isTold yX12_isTold ∈ BIG := bi (sin_9 _ (List.mem_map.mpr ⟨(yX12_isTold, 29), List.mem_of_getElem? (i := 6) rfl, rfl⟩)) rfl
theorem b_918 : Cond.code yX12_part cX12_part 3 (some .int) ∈ BIG := bi (tin_7 _ (List.mem_of_getElem? (i := 175) rfl)) rfl
theorem b_919 : Cond.static yX12_part ∈ BIG := bi (tin_7 _ (List.mem_of_getElem? (i := 174) rfl)) rfl
theorem b_920 : Cond.code yX12_planMany cX12_planMany 2 (some .int) ∈ BIG := bi (tin_7 _ (List.mem_of_getElem? (i := 129) rfl)) rfl
theorem b_921 : Cond.instanceMethod yX12_planMany ∈ BIG := bi (tin_7 _ (List.mem_of_getElem? (i := 128) rfl)) rfl
theorem b_922 : Cond.selects RX12 yX12_planMany yX12_planMany ∈ BIG := bi (sin_8 _ (List.mem_map.mpr ⟨(yX12_planMany, 29), List.mem_of_getElem? (i := 15) rfl, rfl⟩)) rfl
theorem b_923 : Cond.code yX12_planWord cX12_planWord 3 (some .int) ∈ BIG := bi (tin_7 _ (List.mem_of_getElem? (i := 133) rfl)) rfl
theorem b_924 : Cond.instanceMethod yX12_planWord ∈ BIG := bi (tin_7 _ (List.mem_of_getElem? (i := 132) rfl)) rfl
theorem b_925 : Cond.selects RX12 yX12_planWord yX12_planWord ∈ BIG := bi (sin_9 _ (List.mem_map.mpr ⟨(yX12_planWord, 29), List.mem_of_getElem? (i := 0) rfl, rfl⟩)) rfl
theorem b_926 : Cond.code yX12_reckonsOf cX12_reckonsOf 2 (some .int) ∈ BIG := bi (tin_7 _ (List.mem_of_getElem? (i := 94) rfl)) rfl
theorem b_927 : Cond.instanceMethod yX12_reckonsOf ∈ BIG := bi (tin_7 _ (List.mem_of_getElem? (i := 93) rfl)) rfl
theorem b_928 : Cond.selects RX12 yX12_reckonsOf yX12_reckonsOf ∈ BIG := bi (sin_8 _ (List.mem_map.mpr ⟨(yX12_reckonsOf, 29), List.mem_of_getElem? (i := 9) rfl, rfl⟩)) rfl
theorem m_yX12_chanceOf : MV yX12_chanceOf cX12_chanceOf 7 (some .int) 4 := ⟨b_895, b_896, b_897, b_810, by decide +kernel⟩
theorem m_yX12_divisor : MS yX12_divisor cX12_divisor 5 (some .int) 2 := ⟨b_898, b_899, b_810, by decide +kernel⟩
theorem m_yX12_hurtOf : MV yX12_hurtOf cX12_hurtOf 4 (some .int) 3 := ⟨b_900, b_901, b_902, b_810, by decide +kernel⟩
theorem m_yX12_isBelief : MV yX12_isBelief cX12_isBelief 2 (some .boolean) 1 := ⟨b_903, b_904, b_905, b_810, by decide +kernel⟩
theorem m_yX12_isHearer : MV yX12_isHearer cX12_isHearer 2 (some .boolean) 1 := ⟨b_906, b_907, b_908, b_810, by decide +kernel⟩
theorem m_yX12_isPlan : MV yX12_isPlan cX12_isPlan 2 (some .boolean) 1 := ⟨b_909, b_910, b_911, b_810, by decide +kernel⟩
theorem m_yX12_isState : MV yX12_isState cX12_isState 2 (some .boolean) 1 := ⟨b_912, b_913, b_914, b_810, by decide +kernel⟩
theorem m_yX12_isTold : MV yX12_isTold cX12_isTold 3 (some .boolean) 1 := ⟨b_915, b_916, b_917, b_810, by decide +kernel⟩
theorem m_yX12_part : MS yX12_part cX12_part 3 (some .int) 3 := ⟨b_918, b_919, b_810, by decide +kernel⟩
theorem m_yX12_planMany : MV yX12_planMany cX12_planMany 2 (some .int) 1 := ⟨b_920, b_921, b_922, b_810, by decide +kernel⟩
theorem m_yX12_planWord : MV yX12_planWord cX12_planWord 3 (some .int) 2 := ⟨b_923, b_924, b_925, b_810, by decide +kernel⟩
theorem m_yX12_reckonsOf : MV yX12_reckonsOf cX12_reckonsOf 2 (some .int) 1 := ⟨b_926, b_927, b_928, b_810, by decide +kernel⟩
theorem dX12_behind_0 : decode cX12_behind 0 = .ok (.aload_n 0, 1) := by decide +kernel
theorem dX12_behind_1 : decode cX12_behind 1 = .ok (.iload_n 1, 1) := by decide +kernel
theorem dX12_behind_2 : decode cX12_behind 2 = .ok (.invokevirtual 273, 3) := by decide +kernel
theorem dX12_behind_5 : decode cX12_behind 5 = .ok (.ifCond .eq 21, 3) := by decide +kernel
theorem dX12_behind_8 : decode cX12_behind 8 = .ok (.aload_n 0, 1) := by decide +kernel
theorem dX12_behind_9 : decode cX12_behind 9 = .ok (.iload_n 2, 1) := by decide +kernel
theorem dX12_behind_10 : decode cX12_behind 10 = .ok (.i2l, 1) := by decide +kernel
theorem dX12_behind_11 : decode cX12_behind 11 = .ok (.invokevirtual 286, 3) := by decide +kernel
theorem dX12_behind_14 : decode cX12_behind 14 = .ok (.ifCond .eq 12, 3) := by decide +kernel
theorem dX12_behind_17 : decode cX12_behind 17 = .ok (.aload_n 0, 1) := by decide +kernel
theorem dX12_behind_18 : decode cX12_behind 18 = .ok (.iload_n 1, 1) := by decide +kernel
theorem dX12_behind_19 : decode cX12_behind 19 = .ok (.iload_n 2, 1) := by decide +kernel
theorem dX12_behind_20 : decode cX12_behind 20 = .ok (.invokevirtual 243, 3) := by decide +kernel
theorem dX12_behind_23 : decode cX12_behind 23 = .ok (.goto 5, 3) := by decide +kernel
theorem dX12_behind_26 : decode cX12_behind 26 = .ok (.bipush (-2), 2) := by decide +kernel
theorem dX12_behind_28 : decode cX12_behind 28 = .ok (.ireturn, 1) := by decide +kernel
theorem dX12_chance_0 : decode cX12_chance 0 = .ok (.aload_n 0, 1) := by decide +kernel
theorem dX12_chance_1 : decode cX12_chance 1 = .ok (.iload_n 1, 1) := by decide +kernel
theorem dX12_chance_2 : decode cX12_chance 2 = .ok (.invokevirtual 258, 3) := by decide +kernel
theorem dX12_chance_5 : decode cX12_chance 5 = .ok (.ifCond .eq 42, 3) := by decide +kernel
theorem dX12_chance_8 : decode cX12_chance 8 = .ok (.aload_n 0, 1) := by decide +kernel
theorem dX12_chance_9 : decode cX12_chance 9 = .ok (.iload_n 2, 1) := by decide +kernel
theorem dX12_chance_10 : decode cX12_chance 10 = .ok (.invokevirtual 273, 3) := by decide +kernel
theorem dX12_chance_13 : decode cX12_chance 13 = .ok (.ifCond .eq 34, 3) := by decide +kernel
theorem dX12_chance_16 : decode cX12_chance 16 = .ok (.aload_n 0, 1) := by decide +kernel
theorem dX12_chance_17 : decode cX12_chance 17 = .ok (.iload_n 3, 1) := by decide +kernel
theorem dX12_chance_18 : decode cX12_chance 18 = .ok (.invokevirtual 255, 3) := by decide +kernel
theorem dX12_chance_21 : decode cX12_chance 21 = .ok (.ifCond .eq 26, 3) := by decide +kernel
theorem dX12_chance_24 : decode cX12_chance 24 = .ok (.iload 4, 2) := by decide +kernel
theorem dX12_chance_26 : decode cX12_chance 26 = .ok (.i2l, 1) := by decide +kernel
theorem dX12_chance_27 : decode cX12_chance 27 = .ok (.lconst 0, 1) := by decide +kernel
theorem dX12_chance_28 : decode cX12_chance 28 = .ok (.lconst 1, 1) := by decide +kernel
theorem dX12_chance_29 : decode cX12_chance 29 = .ok (.invokestatic 67, 3) := by decide +kernel
theorem dX12_chance_32 : decode cX12_chance 32 = .ok (.ifCond .eq 15, 3) := by decide +kernel
theorem dX12_chance_35 : decode cX12_chance 35 = .ok (.aload_n 0, 1) := by decide +kernel
theorem dX12_chance_36 : decode cX12_chance 36 = .ok (.iload_n 1, 1) := by decide +kernel
theorem dX12_chance_37 : decode cX12_chance 37 = .ok (.iload_n 2, 1) := by decide +kernel
theorem dX12_chance_38 : decode cX12_chance 38 = .ok (.iload_n 3, 1) := by decide +kernel
theorem dX12_chance_39 : decode cX12_chance 39 = .ok (.iload 4, 2) := by decide +kernel
theorem dX12_chance_41 : decode cX12_chance 41 = .ok (.invokevirtual 279, 3) := by decide +kernel
theorem dX12_chance_44 : decode cX12_chance 44 = .ok (.goto 5, 3) := by decide +kernel
theorem dX12_chance_47 : decode cX12_chance 47 = .ok (.bipush (-2), 2) := by decide +kernel
theorem dX12_chance_49 : decode cX12_chance 49 = .ok (.ireturn, 1) := by decide +kernel
theorem dX12_chanceOf_0 : decode cX12_chanceOf 0 = .ok (.iconst 0, 1) := by decide +kernel
theorem dX12_chanceOf_1 : decode cX12_chanceOf 1 = .ok (.istore 5, 2) := by decide +kernel
theorem dX12_chanceOf_3 : decode cX12_chanceOf 3 = .ok (.iconst 0, 1) := by decide +kernel
theorem dX12_chanceOf_4 : decode cX12_chanceOf 4 = .ok (.istore 6, 2) := by decide +kernel
theorem dX12_chanceOf_6 : decode cX12_chanceOf 6 = .ok (.iload 6, 2) := by decide +kernel
theorem dX12_chanceOf_8 : decode cX12_chanceOf 8 = .ok (.aload_n 0, 1) := by decide +kernel
theorem dX12_chanceOf_9 : decode cX12_chanceOf 9 = .ok (.getfield 9, 3) := by decide +kernel
theorem dX12_chanceOf_12 : decode cX12_chanceOf 12 = .ok (.iconst 0, 1) := by decide +kernel
theorem dX12_chanceOf_13 : decode cX12_chanceOf 13 = .ok (.iaload, 1) := by decide +kernel
theorem dX12_chanceOf_14 : decode cX12_chanceOf 14 = .ok (.if_icmp .ge 28, 3) := by decide +kernel
theorem dX12_chanceOf_17 : decode cX12_chanceOf 17 = .ok (.iload 5, 2) := by decide +kernel
theorem dX12_chanceOf_19 : decode cX12_chanceOf 19 = .ok (.iload_n 2, 1) := by decide +kernel
theorem dX12_chanceOf_20 : decode cX12_chanceOf 20 = .ok (.iload 6, 2) := by decide +kernel
theorem dX12_chanceOf_22 : decode cX12_chanceOf 22 = .ok (.invokestatic 89, 3) := by decide +kernel
theorem dX12_chanceOf_25 : decode cX12_chanceOf 25 = .ok (.aload_n 0, 1) := by decide +kernel
theorem dX12_chanceOf_26 : decode cX12_chanceOf 26 = .ok (.iload_n 1, 1) := by decide +kernel
theorem dX12_chanceOf_27 : decode cX12_chanceOf 27 = .ok (.iload 6, 2) := by decide +kernel
theorem dX12_chanceOf_29 : decode cX12_chanceOf 29 = .ok (.invokevirtual 234, 3) := by decide +kernel
theorem dX12_chanceOf_32 : decode cX12_chanceOf 32 = .ok (.imul, 1) := by decide +kernel
theorem dX12_chanceOf_33 : decode cX12_chanceOf 33 = .ok (.iadd, 1) := by decide +kernel
theorem dX12_chanceOf_34 : decode cX12_chanceOf 34 = .ok (.istore 5, 2) := by decide +kernel
theorem dX12_chanceOf_36 : decode cX12_chanceOf 36 = .ok (.iinc 6 1, 3) := by decide +kernel
theorem dX12_chanceOf_39 : decode cX12_chanceOf 39 = .ok (.goto (-33), 3) := by decide +kernel
theorem dX12_chanceOf_42 : decode cX12_chanceOf 42 = .ok (.iload 5, 2) := by decide +kernel
theorem dX12_chanceOf_44 : decode cX12_chanceOf 44 = .ok (.ifCond .le 25, 3) := by decide +kernel
theorem dX12_chanceOf_47 : decode cX12_chanceOf 47 = .ok (.iload_n 2, 1) := by decide +kernel
theorem dX12_chanceOf_48 : decode cX12_chanceOf 48 = .ok (.iload_n 3, 1) := by decide +kernel
theorem dX12_chanceOf_49 : decode cX12_chanceOf 49 = .ok (.invokestatic 89, 3) := by decide +kernel
theorem dX12_chanceOf_52 : decode cX12_chanceOf 52 = .ok (.aload_n 0, 1) := by decide +kernel
theorem dX12_chanceOf_53 : decode cX12_chanceOf 53 = .ok (.iload_n 1, 1) := by decide +kernel
theorem dX12_chanceOf_54 : decode cX12_chanceOf 54 = .ok (.iload_n 3, 1) := by decide +kernel
theorem dX12_chanceOf_55 : decode cX12_chanceOf 55 = .ok (.invokevirtual 234, 3) := by decide +kernel
theorem dX12_chanceOf_58 : decode cX12_chanceOf 58 = .ok (.imul, 1) := by decide +kernel
theorem dX12_chanceOf_59 : decode cX12_chanceOf 59 = .ok (.iload 5, 2) := by decide +kernel
theorem dX12_chanceOf_61 : decode cX12_chanceOf 61 = .ok (.iload 4, 2) := by decide +kernel
theorem dX12_chanceOf_63 : decode cX12_chanceOf 63 = .ok (.invokestatic 283, 3) := by decide +kernel
theorem dX12_chanceOf_66 : decode cX12_chanceOf 66 = .ok (.goto 17, 3) := by decide +kernel
theorem dX12_chanceOf_69 : decode cX12_chanceOf 69 = .ok (.iload_n 2, 1) := by decide +kernel
theorem dX12_chanceOf_70 : decode cX12_chanceOf 70 = .ok (.iload_n 3, 1) := by decide +kernel
theorem dX12_chanceOf_71 : decode cX12_chanceOf 71 = .ok (.invokestatic 89, 3) := by decide +kernel
theorem dX12_chanceOf_74 : decode cX12_chanceOf 74 = .ok (.iload_n 2, 1) := by decide +kernel
theorem dX12_chanceOf_75 : decode cX12_chanceOf 75 = .ok (.invokestatic 237, 3) := by decide +kernel
theorem dX12_chanceOf_78 : decode cX12_chanceOf 78 = .ok (.iload 4, 2) := by decide +kernel
theorem dX12_chanceOf_80 : decode cX12_chanceOf 80 = .ok (.invokestatic 283, 3) := by decide +kernel
theorem dX12_chanceOf_83 : decode cX12_chanceOf 83 = .ok (.ireturn, 1) := by decide +kernel
theorem dX12_divisor_0 : decode cX12_divisor 0 = .ok (.iload_n 0, 1) := by decide +kernel
theorem dX12_divisor_1 : decode cX12_divisor 1 = .ok (.istore_n 2, 1) := by decide +kernel
theorem dX12_divisor_2 : decode cX12_divisor 2 = .ok (.iload_n 1, 1) := by decide +kernel
theorem dX12_divisor_3 : decode cX12_divisor 3 = .ok (.istore_n 3, 1) := by decide +kernel
theorem dX12_divisor_4 : decode cX12_divisor 4 = .ok (.iload_n 3, 1) := by decide +kernel
theorem dX12_divisor_5 : decode cX12_divisor 5 = .ok (.ifCond .eq 16, 3) := by decide +kernel
theorem dX12_divisor_8 : decode cX12_divisor 8 = .ok (.iload_n 2, 1) := by decide +kernel
theorem dX12_divisor_9 : decode cX12_divisor 9 = .ok (.iload_n 3, 1) := by decide +kernel
theorem dX12_divisor_10 : decode cX12_divisor 10 = .ok (.irem, 1) := by decide +kernel
theorem dX12_divisor_11 : decode cX12_divisor 11 = .ok (.istore 4, 2) := by decide +kernel
theorem dX12_divisor_13 : decode cX12_divisor 13 = .ok (.iload_n 3, 1) := by decide +kernel
theorem dX12_divisor_14 : decode cX12_divisor 14 = .ok (.istore_n 2, 1) := by decide +kernel
theorem dX12_divisor_15 : decode cX12_divisor 15 = .ok (.iload 4, 2) := by decide +kernel
theorem dX12_divisor_17 : decode cX12_divisor 17 = .ok (.istore_n 3, 1) := by decide +kernel
theorem dX12_divisor_18 : decode cX12_divisor 18 = .ok (.goto (-14), 3) := by decide +kernel
theorem dX12_divisor_21 : decode cX12_divisor 21 = .ok (.iload_n 2, 1) := by decide +kernel
theorem dX12_divisor_22 : decode cX12_divisor 22 = .ok (.ireturn, 1) := by decide +kernel
theorem dX12_fault_0 : decode cX12_fault 0 = .ok (.iload_n 1, 1) := by decide +kernel
theorem dX12_fault_1 : decode cX12_fault 1 = .ok (.ifCond .ne 10, 3) := by decide +kernel
theorem dX12_fault_4 : decode cX12_fault 4 = .ok (.aload_n 0, 1) := by decide +kernel
theorem dX12_fault_5 : decode cX12_fault 5 = .ok (.getfield 132, 3) := by decide +kernel
theorem dX12_fault_8 : decode cX12_fault 8 = .ok (.goto 16, 3) := by decide +kernel
theorem dX12_fault_11 : decode cX12_fault 11 = .ok (.iload_n 1, 1) := by decide +kernel
theorem dX12_fault_12 : decode cX12_fault 12 = .ok (.iconst 1, 1) := by decide +kernel
theorem dX12_fault_13 : decode cX12_fault 13 = .ok (.if_icmp .ne 10, 3) := by decide +kernel
theorem dX12_fault_16 : decode cX12_fault 16 = .ok (.aload_n 0, 1) := by decide +kernel
theorem dX12_fault_17 : decode cX12_fault 17 = .ok (.getfield 27, 3) := by decide +kernel
theorem dX12_fault_20 : decode cX12_fault 20 = .ok (.goto 4, 3) := by decide +kernel
theorem dX12_fault_23 : decode cX12_fault 23 = .ok (.iconst (-1), 1) := by decide +kernel
theorem dX12_fault_24 : decode cX12_fault 24 = .ok (.ireturn, 1) := by decide +kernel
theorem dX12_grade_0 : decode cX12_grade 0 = .ok (.aload_n 0, 1) := by decide +kernel
theorem dX12_grade_1 : decode cX12_grade 1 = .ok (.iload_n 1, 1) := by decide +kernel
theorem dX12_grade_2 : decode cX12_grade 2 = .ok (.invokevirtual 255, 3) := by decide +kernel
theorem dX12_grade_5 : decode cX12_grade 5 = .ok (.ifCond .eq 15, 3) := by decide +kernel
theorem dX12_grade_8 : decode cX12_grade 8 = .ok (.aload_n 0, 1) := by decide +kernel
theorem dX12_grade_9 : decode cX12_grade 9 = .ok (.getfield 9, 3) := by decide +kernel
theorem dX12_grade_12 : decode cX12_grade 12 = .ok (.bipush 11, 2) := by decide +kernel
theorem dX12_grade_14 : decode cX12_grade 14 = .ok (.iload_n 1, 1) := by decide +kernel
theorem dX12_grade_15 : decode cX12_grade 15 = .ok (.iadd, 1) := by decide +kernel
theorem dX12_grade_16 : decode cX12_grade 16 = .ok (.iaload, 1) := by decide +kernel
theorem dX12_grade_17 : decode cX12_grade 17 = .ok (.goto 5, 3) := by decide +kernel
theorem dX12_grade_20 : decode cX12_grade 20 = .ok (.bipush (-2), 2) := by decide +kernel
theorem dX12_grade_22 : decode cX12_grade 22 = .ok (.ireturn, 1) := by decide +kernel
theorem dX12_hurt_0 : decode cX12_hurt 0 = .ok (.aload_n 0, 1) := by decide +kernel
theorem dX12_hurt_1 : decode cX12_hurt 1 = .ok (.iload_n 1, 1) := by decide +kernel
theorem dX12_hurt_2 : decode cX12_hurt 2 = .ok (.invokevirtual 258, 3) := by decide +kernel
theorem dX12_hurt_5 : decode cX12_hurt 5 = .ok (.ifCond .eq 30, 3) := by decide +kernel
theorem dX12_hurt_8 : decode cX12_hurt 8 = .ok (.aload_n 0, 1) := by decide +kernel
theorem dX12_hurt_9 : decode cX12_hurt 9 = .ok (.iload_n 2, 1) := by decide +kernel
theorem dX12_hurt_10 : decode cX12_hurt 10 = .ok (.invokevirtual 273, 3) := by decide +kernel
theorem dX12_hurt_13 : decode cX12_hurt 13 = .ok (.ifCond .eq 22, 3) := by decide +kernel
theorem dX12_hurt_16 : decode cX12_hurt 16 = .ok (.aload_n 0, 1) := by decide +kernel
theorem dX12_hurt_17 : decode cX12_hurt 17 = .ok (.iload_n 3, 1) := by decide +kernel
theorem dX12_hurt_18 : decode cX12_hurt 18 = .ok (.i2l, 1) := by decide +kernel
theorem dX12_hurt_19 : decode cX12_hurt 19 = .ok (.invokevirtual 286, 3) := by decide +kernel
theorem dX12_hurt_22 : decode cX12_hurt 22 = .ok (.ifCond .eq 13, 3) := by decide +kernel
theorem dX12_hurt_25 : decode cX12_hurt 25 = .ok (.aload_n 0, 1) := by decide +kernel
theorem dX12_hurt_26 : decode cX12_hurt 26 = .ok (.iload_n 1, 1) := by decide +kernel
theorem dX12_hurt_27 : decode cX12_hurt 27 = .ok (.iload_n 2, 1) := by decide +kernel
theorem dX12_hurt_28 : decode cX12_hurt 28 = .ok (.iload_n 3, 1) := by decide +kernel
theorem dX12_hurt_29 : decode cX12_hurt 29 = .ok (.invokevirtual 289, 3) := by decide +kernel
theorem dX12_hurt_32 : decode cX12_hurt 32 = .ok (.goto 5, 3) := by decide +kernel
theorem dX12_hurt_35 : decode cX12_hurt 35 = .ok (.bipush (-2), 2) := by decide +kernel
theorem dX12_hurt_37 : decode cX12_hurt 37 = .ok (.ireturn, 1) := by decide +kernel
theorem dX12_mean_0 : decode cX12_mean 0 = .ok (.aload_n 0, 1) := by decide +kernel
theorem dX12_mean_1 : decode cX12_mean 1 = .ok (.iload_n 1, 1) := by decide +kernel
theorem dX12_mean_2 : decode cX12_mean 2 = .ok (.invokevirtual 258, 3) := by decide +kernel
theorem dX12_mean_5 : decode cX12_mean 5 = .ok (.ifCond .eq 20, 3) := by decide +kernel
theorem dX12_mean_8 : decode cX12_mean 8 = .ok (.aload_n 0, 1) := by decide +kernel
theorem dX12_mean_9 : decode cX12_mean 9 = .ok (.iload_n 2, 1) := by decide +kernel
theorem dX12_mean_10 : decode cX12_mean 10 = .ok (.invokevirtual 273, 3) := by decide +kernel
theorem dX12_mean_13 : decode cX12_mean 13 = .ok (.ifCond .eq 12, 3) := by decide +kernel
theorem dX12_mean_16 : decode cX12_mean 16 = .ok (.aload_n 0, 1) := by decide +kernel
theorem dX12_mean_17 : decode cX12_mean 17 = .ok (.iload_n 1, 1) := by decide +kernel
theorem dX12_mean_18 : decode cX12_mean 18 = .ok (.iload_n 2, 1) := by decide +kernel
theorem dX12_mean_19 : decode cX12_mean 19 = .ok (.invokevirtual 240, 3) := by decide +kernel
theorem dX12_mean_22 : decode cX12_mean 22 = .ok (.goto 5, 3) := by decide +kernel
theorem dX12_mean_25 : decode cX12_mean 25 = .ok (.bipush (-2), 2) := by decide +kernel
theorem dX12_mean_27 : decode cX12_mean 27 = .ok (.ireturn, 1) := by decide +kernel
theorem dX12_news_0 : decode cX12_news 0 = .ok (.iload_n 1, 1) := by decide +kernel
theorem dX12_news_1 : decode cX12_news 1 = .ok (.i2l, 1) := by decide +kernel
theorem dX12_news_2 : decode cX12_news 2 = .ok (.lconst 0, 1) := by decide +kernel
theorem dX12_news_3 : decode cX12_news 3 = .ok (.aload_n 0, 1) := by decide +kernel
theorem dX12_news_4 : decode cX12_news 4 = .ok (.getfield 9, 3) := by decide +kernel
theorem dX12_news_7 : decode cX12_news 7 = .ok (.bipush 8, 2) := by decide +kernel
theorem dX12_news_9 : decode cX12_news 9 = .ok (.iaload, 1) := by decide +kernel
theorem dX12_news_10 : decode cX12_news 10 = .ok (.iconst 1, 1) := by decide +kernel
theorem dX12_news_11 : decode cX12_news 11 = .ok (.isub, 1) := by decide +kernel
theorem dX12_news_12 : decode cX12_news 12 = .ok (.i2l, 1) := by decide +kernel
theorem dX12_news_13 : decode cX12_news 13 = .ok (.invokestatic 67, 3) := by decide +kernel
theorem dX12_news_16 : decode cX12_news 16 = .ok (.ifCond .eq 15, 3) := by decide +kernel
theorem dX12_news_19 : decode cX12_news 19 = .ok (.aload_n 0, 1) := by decide +kernel
theorem dX12_news_20 : decode cX12_news 20 = .ok (.getfield 9, 3) := by decide +kernel
theorem dX12_news_23 : decode cX12_news 23 = .ok (.bipush 95, 2) := by decide +kernel
theorem dX12_news_25 : decode cX12_news 25 = .ok (.iload_n 1, 1) := by decide +kernel
theorem dX12_news_26 : decode cX12_news 26 = .ok (.iadd, 1) := by decide +kernel
theorem dX12_news_27 : decode cX12_news 27 = .ok (.iaload, 1) := by decide +kernel
theorem dX12_news_28 : decode cX12_news 28 = .ok (.goto 6, 3) := by decide +kernel
theorem dX12_news_31 : decode cX12_news 31 = .ok (.sipush (-1000), 3) := by decide +kernel
theorem dX12_news_34 : decode cX12_news 34 = .ok (.ireturn, 1) := by decide +kernel
theorem dX12_part_0 : decode cX12_part 0 = .ok (.iload_n 2, 1) := by decide +kernel
theorem dX12_part_1 : decode cX12_part 1 = .ok (.ifCond .ne 7, 3) := by decide +kernel
theorem dX12_part_4 : decode cX12_part 4 = .ok (.iload_n 0, 1) := by decide +kernel
theorem dX12_part_5 : decode cX12_part 5 = .ok (.goto 4, 3) := by decide +kernel
theorem dX12_part_8 : decode cX12_part 8 = .ok (.iload_n 1, 1) := by decide +kernel
theorem dX12_part_9 : decode cX12_part 9 = .ok (.iload_n 0, 1) := by decide +kernel
theorem dX12_part_10 : decode cX12_part 10 = .ok (.iload_n 1, 1) := by decide +kernel
theorem dX12_part_11 : decode cX12_part 11 = .ok (.invokestatic 276, 3) := by decide +kernel
theorem dX12_part_14 : decode cX12_part 14 = .ok (.idiv, 1) := by decide +kernel
theorem dX12_part_15 : decode cX12_part 15 = .ok (.ireturn, 1) := by decide +kernel
theorem dX12_plan_0 : decode cX12_plan 0 = .ok (.aload_n 0, 1) := by decide +kernel
theorem dX12_plan_1 : decode cX12_plan 1 = .ok (.iload_n 1, 1) := by decide +kernel
theorem dX12_plan_2 : decode cX12_plan 2 = .ok (.invokevirtual 264, 3) := by decide +kernel
theorem dX12_plan_5 : decode cX12_plan 5 = .ok (.ifCond .ne 8, 3) := by decide +kernel
theorem dX12_plan_8 : decode cX12_plan 8 = .ok (.bipush (-2), 2) := by decide +kernel
theorem dX12_plan_10 : decode cX12_plan 10 = .ok (.goto 30, 3) := by decide +kernel
theorem dX12_plan_13 : decode cX12_plan 13 = .ok (.iload_n 2, 1) := by decide +kernel
theorem dX12_plan_14 : decode cX12_plan 14 = .ok (.i2l, 1) := by decide +kernel
theorem dX12_plan_15 : decode cX12_plan 15 = .ok (.lconst 0, 1) := by decide +kernel
theorem dX12_plan_16 : decode cX12_plan 16 = .ok (.aload_n 0, 1) := by decide +kernel
theorem dX12_plan_17 : decode cX12_plan 17 = .ok (.iload_n 1, 1) := by decide +kernel
theorem dX12_plan_18 : decode cX12_plan 18 = .ok (.invokevirtual 267, 3) := by decide +kernel
theorem dX12_plan_21 : decode cX12_plan 21 = .ok (.iconst 1, 1) := by decide +kernel
theorem dX12_plan_22 : decode cX12_plan 22 = .ok (.isub, 1) := by decide +kernel
theorem dX12_plan_23 : decode cX12_plan 23 = .ok (.i2l, 1) := by decide +kernel
theorem dX12_plan_24 : decode cX12_plan 24 = .ok (.invokestatic 67, 3) := by decide +kernel
theorem dX12_plan_27 : decode cX12_plan 27 = .ok (.ifCond .eq 12, 3) := by decide +kernel
theorem dX12_plan_30 : decode cX12_plan 30 = .ok (.aload_n 0, 1) := by decide +kernel
theorem dX12_plan_31 : decode cX12_plan 31 = .ok (.iload_n 1, 1) := by decide +kernel
theorem dX12_plan_32 : decode cX12_plan 32 = .ok (.iload_n 2, 1) := by decide +kernel
theorem dX12_plan_33 : decode cX12_plan 33 = .ok (.invokevirtual 270, 3) := by decide +kernel
theorem dX12_plan_36 : decode cX12_plan 36 = .ok (.goto 4, 3) := by decide +kernel
theorem dX12_plan_39 : decode cX12_plan 39 = .ok (.iconst (-1), 1) := by decide +kernel
theorem dX12_plan_40 : decode cX12_plan 40 = .ok (.ireturn, 1) := by decide +kernel
theorem dX12_softest_0 : decode cX12_softest 0 = .ok (.aload_n 0, 1) := by decide +kernel
theorem dX12_softest_1 : decode cX12_softest 1 = .ok (.iload_n 1, 1) := by decide +kernel
theorem dX12_softest_2 : decode cX12_softest 2 = .ok (.invokevirtual 258, 3) := by decide +kernel
theorem dX12_softest_5 : decode cX12_softest 5 = .ok (.ifCond .eq 11, 3) := by decide +kernel
theorem dX12_softest_8 : decode cX12_softest 8 = .ok (.aload_n 0, 1) := by decide +kernel
theorem dX12_softest_9 : decode cX12_softest 9 = .ok (.iload_n 2, 1) := by decide +kernel
theorem dX12_softest_10 : decode cX12_softest 10 = .ok (.invokevirtual 273, 3) := by decide +kernel
theorem dX12_softest_13 : decode cX12_softest 13 = .ok (.ifCond .ne 6, 3) := by decide +kernel
theorem dX12_softest_16 : decode cX12_softest 16 = .ok (.bipush (-2), 2) := by decide +kernel
theorem dX12_softest_18 : decode cX12_softest 18 = .ok (.ireturn, 1) := by decide +kernel
theorem dX12_softest_19 : decode cX12_softest 19 = .ok (.iconst (-1), 1) := by decide +kernel
theorem dX12_softest_20 : decode cX12_softest 20 = .ok (.istore_n 3, 1) := by decide +kernel
theorem dX12_softest_21 : decode cX12_softest 21 = .ok (.iconst 0, 1) := by decide +kernel
theorem dX12_softest_22 : decode cX12_softest 22 = .ok (.istore 4, 2) := by decide +kernel
theorem dX12_softest_24 : decode cX12_softest 24 = .ok (.iload 4, 2) := by decide +kernel
theorem dX12_softest_26 : decode cX12_softest 26 = .ok (.aload_n 0, 1) := by decide +kernel
theorem dX12_softest_27 : decode cX12_softest 27 = .ok (.getfield 9, 3) := by decide +kernel
theorem dX12_softest_30 : decode cX12_softest 30 = .ok (.bipush 6, 2) := by decide +kernel
theorem dX12_softest_32 : decode cX12_softest 32 = .ok (.iaload, 1) := by decide +kernel
theorem dX12_softest_33 : decode cX12_softest 33 = .ok (.if_icmp .ge 35, 3) := by decide +kernel
theorem dX12_softest_36 : decode cX12_softest 36 = .ok (.iload_n 3, 1) := by decide +kernel
theorem dX12_softest_37 : decode cX12_softest 37 = .ok (.iconst (-1), 1) := by decide +kernel
theorem dX12_softest_38 : decode cX12_softest 38 = .ok (.if_icmp .eq 21, 3) := by decide +kernel
theorem dX12_softest_41 : decode cX12_softest 41 = .ok (.aload_n 0, 1) := by decide +kernel
theorem dX12_softest_42 : decode cX12_softest 42 = .ok (.iload_n 1, 1) := by decide +kernel
theorem dX12_softest_43 : decode cX12_softest 43 = .ok (.iload_n 2, 1) := by decide +kernel
theorem dX12_softest_44 : decode cX12_softest 44 = .ok (.iload 4, 2) := by decide +kernel
theorem dX12_softest_46 : decode cX12_softest 46 = .ok (.invokevirtual 289, 3) := by decide +kernel
theorem dX12_softest_49 : decode cX12_softest 49 = .ok (.aload_n 0, 1) := by decide +kernel
theorem dX12_softest_50 : decode cX12_softest 50 = .ok (.iload_n 1, 1) := by decide +kernel
theorem dX12_softest_51 : decode cX12_softest 51 = .ok (.iload_n 2, 1) := by decide +kernel
theorem dX12_softest_52 : decode cX12_softest 52 = .ok (.iload_n 3, 1) := by decide +kernel
theorem dX12_softest_53 : decode cX12_softest 53 = .ok (.invokevirtual 289, 3) := by decide +kernel
theorem dX12_softest_56 : decode cX12_softest 56 = .ok (.if_icmp .ge 6, 3) := by decide +kernel
theorem dX12_softest_59 : decode cX12_softest 59 = .ok (.iload 4, 2) := by decide +kernel
theorem dX12_softest_61 : decode cX12_softest 61 = .ok (.istore_n 3, 1) := by decide +kernel
theorem dX12_softest_62 : decode cX12_softest 62 = .ok (.iinc 4 1, 3) := by decide +kernel
theorem dX12_softest_65 : decode cX12_softest 65 = .ok (.goto (-41), 3) := by decide +kernel
theorem dX12_softest_68 : decode cX12_softest 68 = .ok (.iload_n 3, 1) := by decide +kernel
theorem dX12_softest_69 : decode cX12_softest 69 = .ok (.ireturn, 1) := by decide +kernel
theorem dX12_tells_0 : decode cX12_tells 0 = .ok (.aload_n 0, 1) := by decide +kernel
theorem dX12_tells_1 : decode cX12_tells 1 = .ok (.iload_n 1, 1) := by decide +kernel
theorem dX12_tells_2 : decode cX12_tells 2 = .ok (.invokevirtual 258, 3) := by decide +kernel
theorem dX12_tells_5 : decode cX12_tells 5 = .ok (.ifCond .eq 15, 3) := by decide +kernel
theorem dX12_tells_8 : decode cX12_tells 8 = .ok (.aload_n 0, 1) := by decide +kernel
theorem dX12_tells_9 : decode cX12_tells 9 = .ok (.getfield 9, 3) := by decide +kernel
theorem dX12_tells_12 : decode cX12_tells 12 = .ok (.bipush 101, 2) := by decide +kernel
theorem dX12_tells_14 : decode cX12_tells 14 = .ok (.iload_n 1, 1) := by decide +kernel
theorem dX12_tells_15 : decode cX12_tells 15 = .ok (.iadd, 1) := by decide +kernel
theorem dX12_tells_16 : decode cX12_tells 16 = .ok (.iaload, 1) := by decide +kernel
theorem dX12_tells_17 : decode cX12_tells 17 = .ok (.goto 5, 3) := by decide +kernel
theorem dX12_tells_20 : decode cX12_tells 20 = .ok (.bipush (-2), 2) := by decide +kernel
theorem dX12_tells_22 : decode cX12_tells 22 = .ok (.ireturn, 1) := by decide +kernel
theorem dX12_thinks_0 : decode cX12_thinks 0 = .ok (.aload_n 0, 1) := by decide +kernel
theorem dX12_thinks_1 : decode cX12_thinks 1 = .ok (.iload_n 1, 1) := by decide +kernel
theorem dX12_thinks_2 : decode cX12_thinks 2 = .ok (.invokevirtual 258, 3) := by decide +kernel
theorem dX12_thinks_5 : decode cX12_thinks 5 = .ok (.ifCond .eq 16, 3) := by decide +kernel
theorem dX12_thinks_8 : decode cX12_thinks 8 = .ok (.aload_n 0, 1) := by decide +kernel
theorem dX12_thinks_9 : decode cX12_thinks 9 = .ok (.iload_n 2, 1) := by decide +kernel
theorem dX12_thinks_10 : decode cX12_thinks 10 = .ok (.invokevirtual 255, 3) := by decide +kernel
theorem dX12_thinks_13 : decode cX12_thinks 13 = .ok (.ifCond .ne 13, 3) := by decide +kernel
theorem dX12_thinks_16 : decode cX12_thinks 16 = .ok (.iload_n 2, 1) := by decide +kernel
theorem dX12_thinks_17 : decode cX12_thinks 17 = .ok (.iconst (-1), 1) := by decide +kernel
theorem dX12_thinks_18 : decode cX12_thinks 18 = .ok (.if_icmp .eq 8, 3) := by decide +kernel
theorem dX12_thinks_21 : decode cX12_thinks 21 = .ok (.bipush (-2), 2) := by decide +kernel
theorem dX12_thinks_23 : decode cX12_thinks 23 = .ok (.goto 22, 3) := by decide +kernel
theorem dX12_thinks_26 : decode cX12_thinks 26 = .ok (.iload_n 2, 1) := by decide +kernel
theorem dX12_thinks_27 : decode cX12_thinks 27 = .ok (.iconst (-1), 1) := by decide +kernel
theorem dX12_thinks_28 : decode cX12_thinks 28 = .ok (.if_icmp .ne 11, 3) := by decide +kernel
theorem dX12_thinks_31 : decode cX12_thinks 31 = .ok (.aload_n 0, 1) := by decide +kernel
theorem dX12_thinks_32 : decode cX12_thinks 32 = .ok (.iload_n 1, 1) := by decide +kernel
theorem dX12_thinks_33 : decode cX12_thinks 33 = .ok (.invokevirtual 261, 3) := by decide +kernel
theorem dX12_thinks_36 : decode cX12_thinks 36 = .ok (.goto 9, 3) := by decide +kernel
theorem dX12_thinks_39 : decode cX12_thinks 39 = .ok (.aload_n 0, 1) := by decide +kernel
theorem dX12_thinks_40 : decode cX12_thinks 40 = .ok (.iload_n 1, 1) := by decide +kernel
theorem dX12_thinks_41 : decode cX12_thinks 41 = .ok (.iload_n 2, 1) := by decide +kernel
theorem dX12_thinks_42 : decode cX12_thinks 42 = .ok (.invokevirtual 234, 3) := by decide +kernel
theorem dX12_thinks_45 : decode cX12_thinks 45 = .ok (.ireturn, 1) := by decide +kernel
theorem dX12_word_0 : decode cX12_word 0 = .ok (.aload_n 0, 1) := by decide +kernel
theorem dX12_word_1 : decode cX12_word 1 = .ok (.iload_n 1, 1) := by decide +kernel
theorem dX12_word_2 : decode cX12_word 2 = .ok (.i2l, 1) := by decide +kernel
theorem dX12_word_3 : decode cX12_word 3 = .ok (.invokevirtual 71, 3) := by decide +kernel
theorem dX12_word_6 : decode cX12_word 6 = .ok (.ifCond .eq 15, 3) := by decide +kernel
theorem dX12_word_9 : decode cX12_word 9 = .ok (.iload_n 2, 1) := by decide +kernel
theorem dX12_word_10 : decode cX12_word 10 = .ok (.i2l, 1) := by decide +kernel
theorem dX12_word_11 : decode cX12_word 11 = .ok (.lconst 0, 1) := by decide +kernel
theorem dX12_word_12 : decode cX12_word 12 = .ok (.ldc2_w 65, 3) := by decide +kernel
theorem dX12_word_15 : decode cX12_word 15 = .ok (.invokestatic 67, 3) := by decide +kernel
theorem dX12_word_18 : decode cX12_word 18 = .ok (.ifCond .ne 6, 3) := by decide +kernel
theorem dX12_word_21 : decode cX12_word 21 = .ok (.bipush (-2), 2) := by decide +kernel
theorem dX12_word_23 : decode cX12_word 23 = .ok (.ireturn, 1) := by decide +kernel
theorem dX12_word_24 : decode cX12_word 24 = .ok (.iload_n 2, 1) := by decide +kernel
theorem dX12_word_25 : decode cX12_word 25 = .ok (.iconst 2, 1) := by decide +kernel
theorem dX12_word_26 : decode cX12_word 26 = .ok (.if_icmp .ge 19, 3) := by decide +kernel
theorem dX12_word_29 : decode cX12_word 29 = .ok (.aload_n 0, 1) := by decide +kernel
theorem dX12_word_30 : decode cX12_word 30 = .ok (.getfield 9, 3) := by decide +kernel
theorem dX12_word_33 : decode cX12_word 33 = .ok (.bipush 55, 2) := by decide +kernel
theorem dX12_word_35 : decode cX12_word 35 = .ok (.iconst 2, 1) := by decide +kernel
theorem dX12_word_36 : decode cX12_word 36 = .ok (.iload_n 1, 1) := by decide +kernel
theorem dX12_word_37 : decode cX12_word 37 = .ok (.imul, 1) := by decide +kernel
theorem dX12_word_38 : decode cX12_word 38 = .ok (.iadd, 1) := by decide +kernel
theorem dX12_word_39 : decode cX12_word 39 = .ok (.iload_n 2, 1) := by decide +kernel
theorem dX12_word_40 : decode cX12_word 40 = .ok (.iadd, 1) := by decide +kernel
theorem dX12_word_41 : decode cX12_word 41 = .ok (.iaload, 1) := by decide +kernel
theorem dX12_word_42 : decode cX12_word 42 = .ok (.goto 16, 3) := by decide +kernel
theorem dX12_word_45 : decode cX12_word 45 = .ok (.aload_n 0, 1) := by decide +kernel
theorem dX12_word_46 : decode cX12_word 46 = .ok (.iload_n 1, 1) := by decide +kernel
theorem dX12_word_47 : decode cX12_word 47 = .ok (.invokevirtual 93, 3) := by decide +kernel
theorem dX12_word_50 : decode cX12_word 50 = .ok (.ifCond .eq 7, 3) := by decide +kernel
theorem dX12_word_53 : decode cX12_word 53 = .ok (.iconst 1, 1) := by decide +kernel
theorem dX12_word_54 : decode cX12_word 54 = .ok (.goto 4, 3) := by decide +kernel
theorem dX12_word_57 : decode cX12_word 57 = .ok (.iconst 0, 1) := by decide +kernel
theorem dX12_word_58 : decode cX12_word 58 = .ok (.ireturn, 1) := by decide +kernel
