theorem b_964 : Cond.fieldLink RX12 318 "GentleLettersModel" "goal" "I" ∈ BIG := bi (tin_6 _ (List.mem_of_getElem? (i := 117) rfl)) rfl
theorem b_965 : Cond.fieldLink RX12 34 "GentleLettersModel" "best" "[I" ∈ BIG := bi (tin_6 _ (List.mem_of_getElem? (i := 116) rfl)) rfl
theorem b_966 : Cond.constant RX12 321 (1000000000) ∈ BIG := bi (tin_8 _ (List.mem_of_getElem? (i := 43) rfl)) rfl
theorem b_967 : Cond.fieldLink RX12 322 "GentleLettersModel" "goalHearer" "I" ∈ BIG := bi (tin_6 _ (List.mem_of_getElem? (i := 119) rfl)) rfl
theorem b_968 : Cond.fieldLink RX12 325 "GentleLettersModel" "goalDays" "I" ∈ BIG := bi (tin_6 _ (List.mem_of_getElem? (i := 118) rfl)) rfl
theorem b_969 : Cond.methodLink RX12 328 yX12_by ∈ BIG := bi (tin_8 _ (List.mem_of_getElem? (i := 48) rfl)) rfl
theorem b_970 : Cond.constant RX12 331 (100000) ∈ BIG := bi (tin_8 _ (List.mem_of_getElem? (i := 42) rfl)) rfl
theorem b_971 : Cond.methodLink RX12 332 yX12_bestWord ∈ BIG := bi (tin_8 _ (List.mem_of_getElem? (i := 44) rfl)) rfl
theorem b_972 : Cond.methodLink RX12 335 yX12_mixed ∈ BIG := bi (tin_8 _ (List.mem_of_getElem? (i := 52) rfl)) rfl
theorem b_973 : Cond.methodLink RX12 338 yX12_fill ∈ BIG := bi (tin_8 _ (List.mem_of_getElem? (i := 38) rfl)) rfl
theorem b_974 : Cond.methodLink RX12 342 yX12_weekBy ∈ BIG := bi (tin_8 _ (List.mem_of_getElem? (i := 34) rfl)) rfl
theorem b_975 : Cond.methodLink RX12 345 yX12_wordWithin ∈ BIG := bi (tin_8 _ (List.mem_of_getElem? (i := 68) rfl)) rfl
theorem b_976 : Cond.methodLink RX12 348 yX12_isDay ∈ BIG := bi (tin_8 _ (List.mem_of_getElem? (i := 60) rfl)) rfl
theorem b_977 : Cond.methodLink RX12 351 yX12_wordBy ∈ BIG := bi (tin_8 _ (List.mem_of_getElem? (i := 64) rfl)) rfl
theorem b_978 : Cond.code yX12_bestWord cX12_bestWord 5 (some .int) ∈ BIG := bi (tin_8 _ (List.mem_of_getElem? (i := 47) rfl)) rfl
theorem b_979 : Cond.instanceMethod yX12_bestWord ∈ BIG := bi (tin_8 _ (List.mem_of_getElem? (i := 46) rfl)) rfl
theorem b_980 : Cond.selects RX12 yX12_bestWord yX12_bestWord ∈ BIG := bi (sin_10 _ (List.mem_map.mpr ⟨(yX12_bestWord, 29), List.mem_of_getElem? (i := 3) rfl, rfl⟩)) rfl
theorem b_981 : Cond.code yX12_by cX12_by 6 (some .int) ∈ BIG := bi (tin_8 _ (List.mem_of_getElem? (i := 51) rfl)) rfl
theorem b_982 : Cond.instanceMethod yX12_by ∈ BIG := bi (tin_8 _ (List.mem_of_getElem? (i := 50) rfl)) rfl
theorem b_983 : Cond.selects RX12 yX12_by yX12_by ∈ BIG := bi (sin_10 _ (List.mem_map.mpr ⟨(yX12_by, 29), List.mem_of_getElem? (i := 4) rfl, rfl⟩)) rfl
theorem b_984 : Cond.code yX12_fill cX12_fill 7 none ∈ BIG := bi (tin_8 _ (List.mem_of_getElem? (i := 41) rfl)) rfl
theorem b_985 : Cond.instanceMethod yX12_fill ∈ BIG := bi (tin_8 _ (List.mem_of_getElem? (i := 40) rfl)) rfl
theorem b_986 : Cond.selects RX12 yX12_fill yX12_fill ∈ BIG := bi (sin_10 _ (List.mem_map.mpr ⟨(yX12_fill, 29), List.mem_of_getElem? (i := 2) rfl, rfl⟩)) rfl
theorem b_987 : Cond.code yX12_isDay cX12_isDay 2 (some .boolean) ∈ BIG := bi (tin_8 _ (List.mem_of_getElem? (i := 63) rfl)) rfl
theorem b_988 : Cond.instanceMethod yX12_isDay ∈ BIG := bi (tin_8 _ (List.mem_of_getElem? (i := 62) rfl)) rfl
theorem b_989 : Cond.selects RX12 yX12_isDay yX12_isDay ∈ BIG := bi (sin_10 _ (List.mem_map.mpr ⟨(yX12_isDay, 29), List.mem_of_getElem? (i := 6) rfl, rfl⟩)) rfl
theorem b_990 : Cond.code yX12_mixed cX12_mixed 3 (some .int) ∈ BIG := bi (tin_8 _ (List.mem_of_getElem? (i := 55) rfl)) rfl
theorem b_991 : Cond.instanceMethod yX12_mixed ∈ BIG := bi (tin_8 _ (List.mem_of_getElem? (i := 54) rfl)) rfl
theorem b_992 : Cond.selects RX12 yX12_mixed yX12_mixed ∈ BIG := bi (sin_10 _ (List.mem_map.mpr ⟨(yX12_mixed, 29), List.mem_of_getElem? (i := 5) rfl, rfl⟩)) rfl
theorem b_993 : Cond.code yX12_weekBy cX12_weekBy 4 (some .int) ∈ BIG := bi (tin_8 _ (List.mem_of_getElem? (i := 37) rfl)) rfl
theorem b_994 : Cond.instanceMethod yX12_weekBy ∈ BIG := bi (tin_8 _ (List.mem_of_getElem? (i := 36) rfl)) rfl
theorem b_995 : Cond.selects RX12 yX12_weekBy yX12_weekBy ∈ BIG := bi (sin_10 _ (List.mem_map.mpr ⟨(yX12_weekBy, 29), List.mem_of_getElem? (i := 1) rfl, rfl⟩)) rfl
theorem b_996 : Cond.code yX12_wordBy cX12_wordBy 8 (some .int) ∈ BIG := bi (tin_8 _ (List.mem_of_getElem? (i := 67) rfl)) rfl
theorem b_997 : Cond.instanceMethod yX12_wordBy ∈ BIG := bi (tin_8 _ (List.mem_of_getElem? (i := 66) rfl)) rfl
theorem b_998 : Cond.selects RX12 yX12_wordBy yX12_wordBy ∈ BIG := bi (sin_10 _ (List.mem_map.mpr ⟨(yX12_wordBy, 29), List.mem_of_getElem? (i := 7) rfl, rfl⟩)) rfl
theorem b_999 : Cond.code yX12_wordWithin cX12_wordWithin 5 (some .int) ∈ BIG := bi (tin_8 _ (List.mem_of_getElem? (i := 71) rfl)) rfl
theorem b_1000 : Cond.instanceMethod yX12_wordWithin ∈ BIG := bi (tin_8 _ (List.mem_of_getElem? (i := 70) rfl)) rfl
theorem b_1001 : Cond.selects RX12 yX12_wordWithin yX12_wordWithin ∈ BIG := bi (sin_10 _ (List.mem_map.mpr ⟨(yX12_wordWithin, 29), List.mem_of_getElem? (i := 8) rfl, rfl⟩)) rfl
theorem m_yX12_bestWord : MV yX12_bestWord cX12_bestWord 5 (some .int) 2 := ⟨b_978, b_979, b_980, b_810, by decide +kernel⟩
theorem m_yX12_by : MV yX12_by cX12_by 6 (some .int) 3 := ⟨b_981, b_982, b_983, b_810, by decide +kernel⟩
theorem m_yX12_fill : MV yX12_fill cX12_fill 7 none 3 := ⟨b_984, b_985, b_986, b_810, by decide +kernel⟩
theorem m_yX12_isDay : MV yX12_isDay cX12_isDay 2 (some .boolean) 1 := ⟨b_987, b_988, b_989, b_810, by decide +kernel⟩
theorem m_yX12_mixed : MV yX12_mixed cX12_mixed 3 (some .int) 2 := ⟨b_990, b_991, b_992, b_810, by decide +kernel⟩
theorem m_yX12_weekBy : MV yX12_weekBy cX12_weekBy 4 (some .int) 2 := ⟨b_993, b_994, b_995, b_810, by decide +kernel⟩
theorem m_yX12_wordBy : MV yX12_wordBy cX12_wordBy 8 (some .int) 3 := ⟨b_996, b_997, b_998, b_810, by decide +kernel⟩
theorem m_yX12_wordWithin : MV yX12_wordWithin cX12_wordWithin 5 (some .int) 3 := ⟨b_999, b_1000, b_1001, b_810, by decide +kernel⟩
theorem dX12_bestWord_0 : decode cX12_bestWord 0 = .ok (.bipush 8, 2) := by decide +kernel
theorem dX12_bestWord_2 : decode cX12_bestWord 2 = .ok (.istore_n 3, 1) := by decide +kernel
theorem dX12_bestWord_3 : decode cX12_bestWord 3 = .ok (.aload_n 0, 1) := by decide +kernel
theorem dX12_bestWord_4 : decode cX12_bestWord 4 = .ok (.getfield 9, 3) := by decide +kernel
theorem dX12_bestWord_7 : decode cX12_bestWord 7 = .ok (.bipush 6, 2) := by decide +kernel
theorem dX12_bestWord_9 : decode cX12_bestWord 9 = .ok (.iaload, 1) := by decide +kernel
theorem dX12_bestWord_10 : decode cX12_bestWord 10 = .ok (.iconst 1, 1) := by decide +kernel
theorem dX12_bestWord_11 : decode cX12_bestWord 11 = .ok (.isub, 1) := by decide +kernel
theorem dX12_bestWord_12 : decode cX12_bestWord 12 = .ok (.istore 4, 2) := by decide +kernel
theorem dX12_bestWord_14 : decode cX12_bestWord 14 = .ok (.iload 4, 2) := by decide +kernel
theorem dX12_bestWord_16 : decode cX12_bestWord 16 = .ok (.ifCond .lt 34, 3) := by decide +kernel
theorem dX12_bestWord_19 : decode cX12_bestWord 19 = .ok (.aload_n 0, 1) := by decide +kernel
theorem dX12_bestWord_20 : decode cX12_bestWord 20 = .ok (.iload_n 1, 1) := by decide +kernel
theorem dX12_bestWord_21 : decode cX12_bestWord 21 = .ok (.iload_n 2, 1) := by decide +kernel
theorem dX12_bestWord_22 : decode cX12_bestWord 22 = .ok (.iload 4, 2) := by decide +kernel
theorem dX12_bestWord_24 : decode cX12_bestWord 24 = .ok (.invokevirtual 328, 3) := by decide +kernel
theorem dX12_bestWord_27 : decode cX12_bestWord 27 = .ok (.aload_n 0, 1) := by decide +kernel
theorem dX12_bestWord_28 : decode cX12_bestWord 28 = .ok (.iload_n 1, 1) := by decide +kernel
theorem dX12_bestWord_29 : decode cX12_bestWord 29 = .ok (.iload_n 2, 1) := by decide +kernel
theorem dX12_bestWord_30 : decode cX12_bestWord 30 = .ok (.iload_n 3, 1) := by decide +kernel
theorem dX12_bestWord_31 : decode cX12_bestWord 31 = .ok (.invokevirtual 328, 3) := by decide +kernel
theorem dX12_bestWord_34 : decode cX12_bestWord 34 = .ok (.if_icmp .gt 8, 3) := by decide +kernel
theorem dX12_bestWord_37 : decode cX12_bestWord 37 = .ok (.iload 4, 2) := by decide +kernel
theorem dX12_bestWord_39 : decode cX12_bestWord 39 = .ok (.goto 4, 3) := by decide +kernel
theorem dX12_bestWord_42 : decode cX12_bestWord 42 = .ok (.iload_n 3, 1) := by decide +kernel
theorem dX12_bestWord_43 : decode cX12_bestWord 43 = .ok (.istore_n 3, 1) := by decide +kernel
theorem dX12_bestWord_44 : decode cX12_bestWord 44 = .ok (.iinc 4 (-1), 3) := by decide +kernel
theorem dX12_bestWord_47 : decode cX12_bestWord 47 = .ok (.goto (-33), 3) := by decide +kernel
theorem dX12_bestWord_50 : decode cX12_bestWord 50 = .ok (.iload_n 3, 1) := by decide +kernel
theorem dX12_bestWord_51 : decode cX12_bestWord 51 = .ok (.ireturn, 1) := by decide +kernel
theorem dX12_by_0 : decode cX12_by 0 = .ok (.aload_n 0, 1) := by decide +kernel
theorem dX12_by_1 : decode cX12_by 1 = .ok (.getfield 318, 3) := by decide +kernel
theorem dX12_by_4 : decode cX12_by 4 = .ok (.iconst 1, 1) := by decide +kernel
theorem dX12_by_5 : decode cX12_by 5 = .ok (.if_icmp .eq 11, 3) := by decide +kernel
theorem dX12_by_8 : decode cX12_by 8 = .ok (.aload_n 0, 1) := by decide +kernel
theorem dX12_by_9 : decode cX12_by 9 = .ok (.getfield 318, 3) := by decide +kernel
theorem dX12_by_12 : decode cX12_by 12 = .ok (.iconst 5, 1) := by decide +kernel
theorem dX12_by_13 : decode cX12_by 13 = .ok (.if_icmp .ne 15, 3) := by decide +kernel
theorem dX12_by_16 : decode cX12_by 16 = .ok (.aload_n 0, 1) := by decide +kernel
theorem dX12_by_17 : decode cX12_by 17 = .ok (.iload_n 3, 1) := by decide +kernel
theorem dX12_by_18 : decode cX12_by 18 = .ok (.invokevirtual 93, 3) := by decide +kernel
theorem dX12_by_21 : decode cX12_by 21 = .ok (.ifCond .ne 7, 3) := by decide +kernel
theorem dX12_by_24 : decode cX12_by 24 = .ok (.ldc_w 321, 3) := by decide +kernel
theorem dX12_by_27 : decode cX12_by 27 = .ok (.ireturn, 1) := by decide +kernel
theorem dX12_by_28 : decode cX12_by 28 = .ok (.aload_n 0, 1) := by decide +kernel
theorem dX12_by_29 : decode cX12_by 29 = .ok (.getfield 34, 3) := by decide +kernel
theorem dX12_by_32 : decode cX12_by 32 = .ok (.sipush 256, 3) := by decide +kernel
theorem dX12_by_35 : decode cX12_by 35 = .ok (.iload_n 1, 1) := by decide +kernel
theorem dX12_by_36 : decode cX12_by 36 = .ok (.iconst 1, 1) := by decide +kernel
theorem dX12_by_37 : decode cX12_by 37 = .ok (.iadd, 1) := by decide +kernel
theorem dX12_by_38 : decode cX12_by 38 = .ok (.imul, 1) := by decide +kernel
theorem dX12_by_39 : decode cX12_by 39 = .ok (.aload_n 0, 1) := by decide +kernel
theorem dX12_by_40 : decode cX12_by 40 = .ok (.iload_n 2, 1) := by decide +kernel
theorem dX12_by_41 : decode cX12_by 41 = .ok (.iload_n 3, 1) := by decide +kernel
theorem dX12_by_42 : decode cX12_by 42 = .ok (.invokevirtual 243, 3) := by decide +kernel
theorem dX12_by_45 : decode cX12_by 45 = .ok (.iadd, 1) := by decide +kernel
theorem dX12_by_46 : decode cX12_by 46 = .ok (.iaload, 1) := by decide +kernel
theorem dX12_by_47 : decode cX12_by 47 = .ok (.istore 4, 2) := by decide +kernel
theorem dX12_by_49 : decode cX12_by 49 = .ok (.iload 4, 2) := by decide +kernel
theorem dX12_by_51 : decode cX12_by 51 = .ok (.ldc_w 321, 3) := by decide +kernel
theorem dX12_by_54 : decode cX12_by 54 = .ok (.if_icmp .lt 7, 3) := by decide +kernel
theorem dX12_by_57 : decode cX12_by 57 = .ok (.ldc_w 321, 3) := by decide +kernel
theorem dX12_by_60 : decode cX12_by 60 = .ok (.ireturn, 1) := by decide +kernel
theorem dX12_by_61 : decode cX12_by 61 = .ok (.aload_n 0, 1) := by decide +kernel
theorem dX12_by_62 : decode cX12_by 62 = .ok (.getfield 318, 3) := by decide +kernel
theorem dX12_by_65 : decode cX12_by 65 = .ok (.iconst 3, 1) := by decide +kernel
theorem dX12_by_66 : decode cX12_by 66 = .ok (.if_icmp .ne 18, 3) := by decide +kernel
theorem dX12_by_69 : decode cX12_by 69 = .ok (.iload 4, 2) := by decide +kernel
theorem dX12_by_71 : decode cX12_by 71 = .ok (.iload_n 3, 1) := by decide +kernel
theorem dX12_by_72 : decode cX12_by 72 = .ok (.bipush 8, 2) := by decide +kernel
theorem dX12_by_74 : decode cX12_by 74 = .ok (.if_icmp .ne 7, 3) := by decide +kernel
theorem dX12_by_77 : decode cX12_by 77 = .ok (.iconst 0, 1) := by decide +kernel
theorem dX12_by_78 : decode cX12_by 78 = .ok (.goto 4, 3) := by decide +kernel
theorem dX12_by_81 : decode cX12_by 81 = .ok (.iconst 1, 1) := by decide +kernel
theorem dX12_by_82 : decode cX12_by 82 = .ok (.iadd, 1) := by decide +kernel
theorem dX12_by_83 : decode cX12_by 83 = .ok (.ireturn, 1) := by decide +kernel
theorem dX12_by_84 : decode cX12_by 84 = .ok (.aload_n 0, 1) := by decide +kernel
theorem dX12_by_85 : decode cX12_by 85 = .ok (.aload_n 0, 1) := by decide +kernel
theorem dX12_by_86 : decode cX12_by 86 = .ok (.getfield 322, 3) := by decide +kernel
theorem dX12_by_89 : decode cX12_by 89 = .ok (.iload_n 2, 1) := by decide +kernel
theorem dX12_by_90 : decode cX12_by 90 = .ok (.iload_n 3, 1) := by decide +kernel
theorem dX12_by_91 : decode cX12_by 91 = .ok (.invokevirtual 289, 3) := by decide +kernel
theorem dX12_by_94 : decode cX12_by 94 = .ok (.istore 5, 2) := by decide +kernel
theorem dX12_by_96 : decode cX12_by 96 = .ok (.aload_n 0, 1) := by decide +kernel
theorem dX12_by_97 : decode cX12_by 97 = .ok (.getfield 318, 3) := by decide +kernel
theorem dX12_by_100 : decode cX12_by 100 = .ok (.iconst 2, 1) := by decide +kernel
theorem dX12_by_101 : decode cX12_by 101 = .ok (.if_icmp .eq 11, 3) := by decide +kernel
theorem dX12_by_104 : decode cX12_by 104 = .ok (.aload_n 0, 1) := by decide +kernel
theorem dX12_by_105 : decode cX12_by 105 = .ok (.getfield 318, 3) := by decide +kernel
theorem dX12_by_108 : decode cX12_by 108 = .ok (.iconst 5, 1) := by decide +kernel
theorem dX12_by_109 : decode cX12_by 109 = .ok (.if_icmp .ne 13, 3) := by decide +kernel
theorem dX12_by_112 : decode cX12_by 112 = .ok (.iload 4, 2) := by decide +kernel
theorem dX12_by_114 : decode cX12_by 114 = .ok (.iload 5, 2) := by decide +kernel
theorem dX12_by_116 : decode cX12_by 116 = .ok (.invokestatic 250, 3) := by decide +kernel
theorem dX12_by_119 : decode cX12_by 119 = .ok (.goto 23, 3) := by decide +kernel
theorem dX12_by_122 : decode cX12_by 122 = .ok (.iload 4, 2) := by decide +kernel
theorem dX12_by_124 : decode cX12_by 124 = .ok (.aload_n 0, 1) := by decide +kernel
theorem dX12_by_125 : decode cX12_by 125 = .ok (.iload 5, 2) := by decide +kernel
theorem dX12_by_127 : decode cX12_by 127 = .ok (.iload_n 1, 1) := by decide +kernel
theorem dX12_by_128 : decode cX12_by 128 = .ok (.aload_n 0, 1) := by decide +kernel
theorem dX12_by_129 : decode cX12_by 129 = .ok (.getfield 325, 3) := by decide +kernel
theorem dX12_by_132 : decode cX12_by 132 = .ok (.invokevirtual 306, 3) := by decide +kernel
theorem dX12_by_135 : decode cX12_by 135 = .ok (.iadd, 1) := by decide +kernel
theorem dX12_by_136 : decode cX12_by 136 = .ok (.aload_n 0, 1) := by decide +kernel
theorem dX12_by_137 : decode cX12_by 137 = .ok (.iload_n 3, 1) := by decide +kernel
theorem dX12_by_138 : decode cX12_by 138 = .ok (.invokevirtual 312, 3) := by decide +kernel
theorem dX12_by_141 : decode cX12_by 141 = .ok (.iadd, 1) := by decide +kernel
theorem dX12_by_142 : decode cX12_by 142 = .ok (.ireturn, 1) := by decide +kernel
theorem dX12_calm_0 : decode cX12_calm 0 = .ok (.aload_n 0, 1) := by decide +kernel
theorem dX12_calm_1 : decode cX12_calm 1 = .ok (.iload_n 1, 1) := by decide +kernel
theorem dX12_calm_2 : decode cX12_calm 2 = .ok (.invokevirtual 258, 3) := by decide +kernel
theorem dX12_calm_5 : decode cX12_calm 5 = .ok (.ifCond .eq 11, 3) := by decide +kernel
theorem dX12_calm_8 : decode cX12_calm 8 = .ok (.aload_n 0, 1) := by decide +kernel
theorem dX12_calm_9 : decode cX12_calm 9 = .ok (.iload_n 2, 1) := by decide +kernel
theorem dX12_calm_10 : decode cX12_calm 10 = .ok (.invokevirtual 273, 3) := by decide +kernel
theorem dX12_calm_13 : decode cX12_calm 13 = .ok (.ifCond .ne 6, 3) := by decide +kernel
theorem dX12_calm_16 : decode cX12_calm 16 = .ok (.bipush (-2), 2) := by decide +kernel
theorem dX12_calm_18 : decode cX12_calm 18 = .ok (.ireturn, 1) := by decide +kernel
theorem dX12_calm_19 : decode cX12_calm 19 = .ok (.iconst 0, 1) := by decide +kernel
theorem dX12_calm_20 : decode cX12_calm 20 = .ok (.istore_n 3, 1) := by decide +kernel
theorem dX12_calm_21 : decode cX12_calm 21 = .ok (.iconst 0, 1) := by decide +kernel
theorem dX12_calm_22 : decode cX12_calm 22 = .ok (.istore 4, 2) := by decide +kernel
theorem dX12_calm_24 : decode cX12_calm 24 = .ok (.iload 4, 2) := by decide +kernel
theorem dX12_calm_26 : decode cX12_calm 26 = .ok (.aload_n 0, 1) := by decide +kernel
theorem dX12_calm_27 : decode cX12_calm 27 = .ok (.getfield 9, 3) := by decide +kernel
theorem dX12_calm_30 : decode cX12_calm 30 = .ok (.iconst 0, 1) := by decide +kernel
theorem dX12_calm_31 : decode cX12_calm 31 = .ok (.iaload, 1) := by decide +kernel
theorem dX12_calm_32 : decode cX12_calm 32 = .ok (.if_icmp .ge 33, 3) := by decide +kernel
theorem dX12_calm_35 : decode cX12_calm 35 = .ok (.iload_n 3, 1) := by decide +kernel
theorem dX12_calm_36 : decode cX12_calm 36 = .ok (.aload_n 0, 1) := by decide +kernel
theorem dX12_calm_37 : decode cX12_calm 37 = .ok (.iload_n 1, 1) := by decide +kernel
theorem dX12_calm_38 : decode cX12_calm 38 = .ok (.iload_n 2, 1) := by decide +kernel
theorem dX12_calm_39 : decode cX12_calm 39 = .ok (.iconst 1, 1) := by decide +kernel
theorem dX12_calm_40 : decode cX12_calm 40 = .ok (.iload 4, 2) := by decide +kernel
theorem dX12_calm_42 : decode cX12_calm 42 = .ok (.ishl, 1) := by decide +kernel
theorem dX12_calm_43 : decode cX12_calm 43 = .ok (.invokevirtual 246, 3) := by decide +kernel
theorem dX12_calm_46 : decode cX12_calm 46 = .ok (.ifCond .ne 10, 3) := by decide +kernel
theorem dX12_calm_49 : decode cX12_calm 49 = .ok (.iconst 1, 1) := by decide +kernel
theorem dX12_calm_50 : decode cX12_calm 50 = .ok (.iload 4, 2) := by decide +kernel
theorem dX12_calm_52 : decode cX12_calm 52 = .ok (.ishl, 1) := by decide +kernel
theorem dX12_calm_53 : decode cX12_calm 53 = .ok (.goto 4, 3) := by decide +kernel
theorem dX12_calm_56 : decode cX12_calm 56 = .ok (.iconst 0, 1) := by decide +kernel
theorem dX12_calm_57 : decode cX12_calm 57 = .ok (.ior, 1) := by decide +kernel
theorem dX12_calm_58 : decode cX12_calm 58 = .ok (.istore_n 3, 1) := by decide +kernel
theorem dX12_calm_59 : decode cX12_calm 59 = .ok (.iinc 4 1, 3) := by decide +kernel
theorem dX12_calm_62 : decode cX12_calm 62 = .ok (.goto (-38), 3) := by decide +kernel
theorem dX12_calm_65 : decode cX12_calm 65 = .ok (.iload_n 3, 1) := by decide +kernel
theorem dX12_calm_66 : decode cX12_calm 66 = .ok (.ireturn, 1) := by decide +kernel
theorem dX12_fewest_0 : decode cX12_fewest 0 = .ok (.aload_n 0, 1) := by decide +kernel
theorem dX12_fewest_1 : decode cX12_fewest 1 = .ok (.invokevirtual 77, 3) := by decide +kernel
theorem dX12_fewest_4 : decode cX12_fewest 4 = .ok (.ifCond .eq 12, 3) := by decide +kernel
theorem dX12_fewest_7 : decode cX12_fewest 7 = .ok (.aload_n 0, 1) := by decide +kernel
theorem dX12_fewest_8 : decode cX12_fewest 8 = .ok (.iconst 3, 1) := by decide +kernel
theorem dX12_fewest_9 : decode cX12_fewest 9 = .ok (.iconst 0, 1) := by decide +kernel
theorem dX12_fewest_10 : decode cX12_fewest 10 = .ok (.invokevirtual 342, 3) := by decide +kernel
theorem dX12_fewest_13 : decode cX12_fewest 13 = .ok (.goto 5, 3) := by decide +kernel
theorem dX12_fewest_16 : decode cX12_fewest 16 = .ok (.bipush (-2), 2) := by decide +kernel
theorem dX12_fewest_18 : decode cX12_fewest 18 = .ok (.ireturn, 1) := by decide +kernel
theorem dX12_fill_0 : decode cX12_fill 0 = .ok (.aload_n 0, 1) := by decide +kernel
theorem dX12_fill_1 : decode cX12_fill 1 = .ok (.iload_n 1, 1) := by decide +kernel
theorem dX12_fill_2 : decode cX12_fill 2 = .ok (.putfield 318, 3) := by decide +kernel
theorem dX12_fill_5 : decode cX12_fill 5 = .ok (.aload_n 0, 1) := by decide +kernel
theorem dX12_fill_6 : decode cX12_fill 6 = .ok (.iload_n 3, 1) := by decide +kernel
theorem dX12_fill_7 : decode cX12_fill 7 = .ok (.putfield 325, 3) := by decide +kernel
theorem dX12_fill_10 : decode cX12_fill 10 = .ok (.aload_n 0, 1) := by decide +kernel
theorem dX12_fill_11 : decode cX12_fill 11 = .ok (.iload_n 2, 1) := by decide +kernel
theorem dX12_fill_12 : decode cX12_fill 12 = .ok (.putfield 322, 3) := by decide +kernel
theorem dX12_fill_15 : decode cX12_fill 15 = .ok (.iconst 1, 1) := by decide +kernel
theorem dX12_fill_16 : decode cX12_fill 16 = .ok (.istore 4, 2) := by decide +kernel
theorem dX12_fill_18 : decode cX12_fill 18 = .ok (.iload 4, 2) := by decide +kernel
theorem dX12_fill_20 : decode cX12_fill 20 = .ok (.aload_n 0, 1) := by decide +kernel
theorem dX12_fill_21 : decode cX12_fill 21 = .ok (.invokevirtual 81, 3) := by decide +kernel
theorem dX12_fill_24 : decode cX12_fill 24 = .ok (.if_icmp .gt 49, 3) := by decide +kernel
theorem dX12_fill_27 : decode cX12_fill 27 = .ok (.aload_n 0, 1) := by decide +kernel
theorem dX12_fill_28 : decode cX12_fill 28 = .ok (.getfield 34, 3) := by decide +kernel
theorem dX12_fill_31 : decode cX12_fill 31 = .ok (.sipush 256, 3) := by decide +kernel
theorem dX12_fill_34 : decode cX12_fill 34 = .ok (.iload_n 3, 1) := by decide +kernel
theorem dX12_fill_35 : decode cX12_fill 35 = .ok (.imul, 1) := by decide +kernel
theorem dX12_fill_36 : decode cX12_fill 36 = .ok (.iload 4, 2) := by decide +kernel
theorem dX12_fill_38 : decode cX12_fill 38 = .ok (.iadd, 1) := by decide +kernel
theorem dX12_fill_39 : decode cX12_fill 39 = .ok (.iload 4, 2) := by decide +kernel
theorem dX12_fill_41 : decode cX12_fill 41 = .ok (.aload_n 0, 1) := by decide +kernel
theorem dX12_fill_42 : decode cX12_fill 42 = .ok (.invokevirtual 315, 3) := by decide +kernel
theorem dX12_fill_45 : decode cX12_fill 45 = .ok (.if_icmp .ne 7, 3) := by decide +kernel
theorem dX12_fill_48 : decode cX12_fill 48 = .ok (.iconst 0, 1) := by decide +kernel
theorem dX12_fill_49 : decode cX12_fill 49 = .ok (.goto 17, 3) := by decide +kernel
theorem dX12_fill_52 : decode cX12_fill 52 = .ok (.iload_n 1, 1) := by decide +kernel
theorem dX12_fill_53 : decode cX12_fill 53 = .ok (.iconst 4, 1) := by decide +kernel
theorem dX12_fill_54 : decode cX12_fill 54 = .ok (.if_icmp .ne 9, 3) := by decide +kernel
theorem dX12_fill_57 : decode cX12_fill 57 = .ok (.ldc_w 331, 3) := by decide +kernel
theorem dX12_fill_60 : decode cX12_fill 60 = .ok (.goto 6, 3) := by decide +kernel
theorem dX12_fill_63 : decode cX12_fill 63 = .ok (.ldc_w 321, 3) := by decide +kernel
theorem dX12_fill_66 : decode cX12_fill 66 = .ok (.iastore, 1) := by decide +kernel
theorem dX12_fill_67 : decode cX12_fill 67 = .ok (.iinc 4 1, 3) := by decide +kernel
theorem dX12_fill_70 : decode cX12_fill 70 = .ok (.goto (-52), 3) := by decide +kernel
theorem dX12_fill_73 : decode cX12_fill 73 = .ok (.iload_n 3, 1) := by decide +kernel
theorem dX12_fill_74 : decode cX12_fill 74 = .ok (.iconst 1, 1) := by decide +kernel
theorem dX12_fill_75 : decode cX12_fill 75 = .ok (.isub, 1) := by decide +kernel
theorem dX12_fill_76 : decode cX12_fill 76 = .ok (.istore 4, 2) := by decide +kernel
theorem dX12_fill_78 : decode cX12_fill 78 = .ok (.iload 4, 2) := by decide +kernel
theorem dX12_fill_80 : decode cX12_fill 80 = .ok (.ifCond .lt 98, 3) := by decide +kernel
theorem dX12_fill_83 : decode cX12_fill 83 = .ok (.iconst 1, 1) := by decide +kernel
theorem dX12_fill_84 : decode cX12_fill 84 = .ok (.istore 5, 2) := by decide +kernel
theorem dX12_fill_86 : decode cX12_fill 86 = .ok (.iload 5, 2) := by decide +kernel
theorem dX12_fill_88 : decode cX12_fill 88 = .ok (.aload_n 0, 1) := by decide +kernel
theorem dX12_fill_89 : decode cX12_fill 89 = .ok (.invokevirtual 81, 3) := by decide +kernel
theorem dX12_fill_92 : decode cX12_fill 92 = .ok (.if_icmp .gt 80, 3) := by decide +kernel
theorem dX12_fill_95 : decode cX12_fill 95 = .ok (.aload_n 0, 1) := by decide +kernel
theorem dX12_fill_96 : decode cX12_fill 96 = .ok (.iload 4, 2) := by decide +kernel
theorem dX12_fill_98 : decode cX12_fill 98 = .ok (.iload 5, 2) := by decide +kernel
theorem dX12_fill_100 : decode cX12_fill 100 = .ok (.aload_n 0, 1) := by decide +kernel
theorem dX12_fill_101 : decode cX12_fill 101 = .ok (.iload 4, 2) := by decide +kernel
theorem dX12_fill_103 : decode cX12_fill 103 = .ok (.iload 5, 2) := by decide +kernel
theorem dX12_fill_105 : decode cX12_fill 105 = .ok (.invokevirtual 332, 3) := by decide +kernel
theorem dX12_fill_108 : decode cX12_fill 108 = .ok (.invokevirtual 328, 3) := by decide +kernel
theorem dX12_fill_111 : decode cX12_fill 111 = .ok (.istore 6, 2) := by decide +kernel
theorem dX12_fill_113 : decode cX12_fill 113 = .ok (.aload_n 0, 1) := by decide +kernel
theorem dX12_fill_114 : decode cX12_fill 114 = .ok (.getfield 34, 3) := by decide +kernel
theorem dX12_fill_117 : decode cX12_fill 117 = .ok (.sipush 256, 3) := by decide +kernel
theorem dX12_fill_120 : decode cX12_fill 120 = .ok (.iload 4, 2) := by decide +kernel
theorem dX12_fill_122 : decode cX12_fill 122 = .ok (.imul, 1) := by decide +kernel
theorem dX12_fill_123 : decode cX12_fill 123 = .ok (.iload 5, 2) := by decide +kernel
theorem dX12_fill_125 : decode cX12_fill 125 = .ok (.iadd, 1) := by decide +kernel
theorem dX12_fill_126 : decode cX12_fill 126 = .ok (.iload_n 1, 1) := by decide +kernel
theorem dX12_fill_127 : decode cX12_fill 127 = .ok (.iconst 4, 1) := by decide +kernel
theorem dX12_fill_128 : decode cX12_fill 128 = .ok (.if_icmp .ne 35, 3) := by decide +kernel
theorem dX12_fill_131 : decode cX12_fill 131 = .ok (.iload 4, 2) := by decide +kernel
theorem dX12_fill_133 : decode cX12_fill 133 = .ok (.ifCond .le 30, 3) := by decide +kernel
theorem dX12_fill_136 : decode cX12_fill 136 = .ok (.aload_n 0, 1) := by decide +kernel
theorem dX12_fill_137 : decode cX12_fill 137 = .ok (.aload_n 0, 1) := by decide +kernel
theorem dX12_fill_138 : decode cX12_fill 138 = .ok (.aload_n 0, 1) := by decide +kernel
theorem dX12_fill_139 : decode cX12_fill 139 = .ok (.iload_n 2, 1) := by decide +kernel
theorem dX12_fill_140 : decode cX12_fill 140 = .ok (.iload 5, 2) := by decide +kernel
theorem dX12_fill_142 : decode cX12_fill 142 = .ok (.aload_n 0, 1) := by decide +kernel
theorem dX12_fill_143 : decode cX12_fill 143 = .ok (.invokevirtual 315, 3) := by decide +kernel
theorem dX12_fill_146 : decode cX12_fill 146 = .ok (.invokevirtual 246, 3) := by decide +kernel
theorem dX12_fill_149 : decode cX12_fill 149 = .ok (.iload 4, 2) := by decide +kernel
theorem dX12_fill_151 : decode cX12_fill 151 = .ok (.iload_n 3, 1) := by decide +kernel
theorem dX12_fill_152 : decode cX12_fill 152 = .ok (.invokevirtual 306, 3) := by decide +kernel
theorem dX12_fill_155 : decode cX12_fill 155 = .ok (.iload 6, 2) := by decide +kernel
theorem dX12_fill_157 : decode cX12_fill 157 = .ok (.invokevirtual 335, 3) := by decide +kernel
theorem dX12_fill_160 : decode cX12_fill 160 = .ok (.goto 5, 3) := by decide +kernel
theorem dX12_fill_163 : decode cX12_fill 163 = .ok (.iload 6, 2) := by decide +kernel
theorem dX12_fill_165 : decode cX12_fill 165 = .ok (.iastore, 1) := by decide +kernel
theorem dX12_fill_166 : decode cX12_fill 166 = .ok (.iinc 5 1, 3) := by decide +kernel
theorem dX12_fill_169 : decode cX12_fill 169 = .ok (.goto (-83), 3) := by decide +kernel
theorem dX12_fill_172 : decode cX12_fill 172 = .ok (.iinc 4 (-1), 3) := by decide +kernel
theorem dX12_fill_175 : decode cX12_fill 175 = .ok (.goto (-97), 3) := by decide +kernel
theorem dX12_fill_178 : decode cX12_fill 178 = .ok (.return_, 1) := by decide +kernel
theorem dX12_gentlest_0 : decode cX12_gentlest 0 = .ok (.aload_n 0, 1) := by decide +kernel
theorem dX12_gentlest_1 : decode cX12_gentlest 1 = .ok (.iload_n 1, 1) := by decide +kernel
theorem dX12_gentlest_2 : decode cX12_gentlest 2 = .ok (.invokevirtual 258, 3) := by decide +kernel
theorem dX12_gentlest_5 : decode cX12_gentlest 5 = .ok (.ifCond .eq 12, 3) := by decide +kernel
theorem dX12_gentlest_8 : decode cX12_gentlest 8 = .ok (.aload_n 0, 1) := by decide +kernel
theorem dX12_gentlest_9 : decode cX12_gentlest 9 = .ok (.iconst 2, 1) := by decide +kernel
theorem dX12_gentlest_10 : decode cX12_gentlest 10 = .ok (.iload_n 1, 1) := by decide +kernel
theorem dX12_gentlest_11 : decode cX12_gentlest 11 = .ok (.invokevirtual 342, 3) := by decide +kernel
theorem dX12_gentlest_14 : decode cX12_gentlest 14 = .ok (.goto 5, 3) := by decide +kernel
theorem dX12_gentlest_17 : decode cX12_gentlest 17 = .ok (.bipush (-2), 2) := by decide +kernel
theorem dX12_gentlest_19 : decode cX12_gentlest 19 = .ok (.ireturn, 1) := by decide +kernel
theorem dX12_gently_0 : decode cX12_gently 0 = .ok (.aload_n 0, 1) := by decide +kernel
theorem dX12_gently_1 : decode cX12_gently 1 = .ok (.iload_n 1, 1) := by decide +kernel
theorem dX12_gently_2 : decode cX12_gently 2 = .ok (.invokevirtual 258, 3) := by decide +kernel
theorem dX12_gently_5 : decode cX12_gently 5 = .ok (.ifCond .eq 21, 3) := by decide +kernel
theorem dX12_gently_8 : decode cX12_gently 8 = .ok (.aload_n 0, 1) := by decide +kernel
theorem dX12_gently_9 : decode cX12_gently 9 = .ok (.iload_n 2, 1) := by decide +kernel
theorem dX12_gently_10 : decode cX12_gently 10 = .ok (.invokevirtual 348, 3) := by decide +kernel
theorem dX12_gently_13 : decode cX12_gently 13 = .ok (.ifCond .eq 13, 3) := by decide +kernel
theorem dX12_gently_16 : decode cX12_gently 16 = .ok (.aload_n 0, 1) := by decide +kernel
theorem dX12_gently_17 : decode cX12_gently 17 = .ok (.iconst 2, 1) := by decide +kernel
theorem dX12_gently_18 : decode cX12_gently 18 = .ok (.iload_n 1, 1) := by decide +kernel
theorem dX12_gently_19 : decode cX12_gently 19 = .ok (.iload_n 2, 1) := by decide +kernel
theorem dX12_gently_20 : decode cX12_gently 20 = .ok (.invokevirtual 351, 3) := by decide +kernel
theorem dX12_gently_23 : decode cX12_gently 23 = .ok (.goto 5, 3) := by decide +kernel
theorem dX12_gently_26 : decode cX12_gently 26 = .ok (.bipush (-2), 2) := by decide +kernel
theorem dX12_gently_28 : decode cX12_gently 28 = .ok (.ireturn, 1) := by decide +kernel
theorem dX12_honest_0 : decode cX12_honest 0 = .ok (.aload_n 0, 1) := by decide +kernel
theorem dX12_honest_1 : decode cX12_honest 1 = .ok (.iload_n 1, 1) := by decide +kernel
theorem dX12_honest_2 : decode cX12_honest 2 = .ok (.invokevirtual 258, 3) := by decide +kernel
theorem dX12_honest_5 : decode cX12_honest 5 = .ok (.ifCond .eq 21, 3) := by decide +kernel
theorem dX12_honest_8 : decode cX12_honest 8 = .ok (.aload_n 0, 1) := by decide +kernel
theorem dX12_honest_9 : decode cX12_honest 9 = .ok (.iload_n 2, 1) := by decide +kernel
theorem dX12_honest_10 : decode cX12_honest 10 = .ok (.invokevirtual 348, 3) := by decide +kernel
theorem dX12_honest_13 : decode cX12_honest 13 = .ok (.ifCond .eq 13, 3) := by decide +kernel
theorem dX12_honest_16 : decode cX12_honest 16 = .ok (.aload_n 0, 1) := by decide +kernel
theorem dX12_honest_17 : decode cX12_honest 17 = .ok (.iconst 1, 1) := by decide +kernel
theorem dX12_honest_18 : decode cX12_honest 18 = .ok (.iload_n 1, 1) := by decide +kernel
theorem dX12_honest_19 : decode cX12_honest 19 = .ok (.iload_n 2, 1) := by decide +kernel
theorem dX12_honest_20 : decode cX12_honest 20 = .ok (.invokevirtual 351, 3) := by decide +kernel
theorem dX12_honest_23 : decode cX12_honest 23 = .ok (.goto 5, 3) := by decide +kernel
theorem dX12_honest_26 : decode cX12_honest 26 = .ok (.bipush (-2), 2) := by decide +kernel
theorem dX12_honest_28 : decode cX12_honest 28 = .ok (.ireturn, 1) := by decide +kernel
theorem dX12_late_0 : decode cX12_late 0 = .ok (.aload_n 0, 1) := by decide +kernel
theorem dX12_late_1 : decode cX12_late 1 = .ok (.iload_n 1, 1) := by decide +kernel
theorem dX12_late_2 : decode cX12_late 2 = .ok (.invokevirtual 258, 3) := by decide +kernel
theorem dX12_late_5 : decode cX12_late 5 = .ok (.ifCond .eq 7, 3) := by decide +kernel
theorem dX12_late_8 : decode cX12_late 8 = .ok (.iload_n 2, 1) := by decide +kernel
theorem dX12_late_9 : decode cX12_late 9 = .ok (.ifCond .ge 6, 3) := by decide +kernel
theorem dX12_late_12 : decode cX12_late 12 = .ok (.bipush (-2), 2) := by decide +kernel
theorem dX12_late_14 : decode cX12_late 14 = .ok (.ireturn, 1) := by decide +kernel
theorem dX12_late_15 : decode cX12_late 15 = .ok (.aload_n 0, 1) := by decide +kernel
theorem dX12_late_16 : decode cX12_late 16 = .ok (.iload_n 1, 1) := by decide +kernel
theorem dX12_late_17 : decode cX12_late 17 = .ok (.aload_n 0, 1) := by decide +kernel
theorem dX12_late_18 : decode cX12_late 18 = .ok (.invokevirtual 81, 3) := by decide +kernel
theorem dX12_late_21 : decode cX12_late 21 = .ok (.aload_n 0, 1) := by decide +kernel
theorem dX12_late_22 : decode cX12_late 22 = .ok (.invokevirtual 315, 3) := by decide +kernel
theorem dX12_late_25 : decode cX12_late 25 = .ok (.invokevirtual 246, 3) := by decide +kernel
theorem dX12_late_28 : decode cX12_late 28 = .ok (.istore_n 3, 1) := by decide +kernel
theorem dX12_late_29 : decode cX12_late 29 = .ok (.aload_n 0, 1) := by decide +kernel
theorem dX12_late_30 : decode cX12_late 30 = .ok (.getfield 9, 3) := by decide +kernel
theorem dX12_late_33 : decode cX12_late 33 = .ok (.iconst 2, 1) := by decide +kernel
theorem dX12_late_34 : decode cX12_late 34 = .ok (.iaload, 1) := by decide +kernel
theorem dX12_late_35 : decode cX12_late 35 = .ok (.iconst 1, 1) := by decide +kernel
theorem dX12_late_36 : decode cX12_late 36 = .ok (.isub, 1) := by decide +kernel
theorem dX12_late_37 : decode cX12_late 37 = .ok (.istore 4, 2) := by decide +kernel
theorem dX12_late_39 : decode cX12_late 39 = .ok (.iload 4, 2) := by decide +kernel
theorem dX12_late_41 : decode cX12_late 41 = .ok (.ifCond .lt 29, 3) := by decide +kernel
theorem dX12_late_44 : decode cX12_late 44 = .ok (.aload_n 0, 1) := by decide +kernel
theorem dX12_late_45 : decode cX12_late 45 = .ok (.iload_n 3, 1) := by decide +kernel
theorem dX12_late_46 : decode cX12_late 46 = .ok (.iload 4, 2) := by decide +kernel
theorem dX12_late_48 : decode cX12_late 48 = .ok (.aload_n 0, 1) := by decide +kernel
theorem dX12_late_49 : decode cX12_late 49 = .ok (.getfield 9, 3) := by decide +kernel
theorem dX12_late_52 : decode cX12_late 52 = .ok (.iconst 2, 1) := by decide +kernel
theorem dX12_late_53 : decode cX12_late 53 = .ok (.iaload, 1) := by decide +kernel
theorem dX12_late_54 : decode cX12_late 54 = .ok (.invokevirtual 306, 3) := by decide +kernel
theorem dX12_late_57 : decode cX12_late 57 = .ok (.iload_n 2, 1) := by decide +kernel
theorem dX12_late_58 : decode cX12_late 58 = .ok (.if_icmp .gt 6, 3) := by decide +kernel
theorem dX12_late_61 : decode cX12_late 61 = .ok (.iload 4, 2) := by decide +kernel
theorem dX12_late_63 : decode cX12_late 63 = .ok (.ireturn, 1) := by decide +kernel
theorem dX12_late_64 : decode cX12_late 64 = .ok (.iinc 4 (-1), 3) := by decide +kernel
theorem dX12_late_67 : decode cX12_late 67 = .ok (.goto (-28), 3) := by decide +kernel
theorem dX12_late_70 : decode cX12_late 70 = .ok (.iconst (-1), 1) := by decide +kernel
theorem dX12_late_71 : decode cX12_late 71 = .ok (.ireturn, 1) := by decide +kernel
theorem dX12_least_0 : decode cX12_least 0 = .ok (.aload_n 0, 1) := by decide +kernel
theorem dX12_least_1 : decode cX12_least 1 = .ok (.iload_n 1, 1) := by decide +kernel
theorem dX12_least_2 : decode cX12_least 2 = .ok (.invokevirtual 258, 3) := by decide +kernel
theorem dX12_least_5 : decode cX12_least 5 = .ok (.ifCond .eq 12, 3) := by decide +kernel
theorem dX12_least_8 : decode cX12_least 8 = .ok (.aload_n 0, 1) := by decide +kernel
theorem dX12_least_9 : decode cX12_least 9 = .ok (.iconst 0, 1) := by decide +kernel
theorem dX12_least_10 : decode cX12_least 10 = .ok (.iload_n 1, 1) := by decide +kernel
theorem dX12_least_11 : decode cX12_least 11 = .ok (.invokevirtual 342, 3) := by decide +kernel
theorem dX12_least_14 : decode cX12_least 14 = .ok (.goto 5, 3) := by decide +kernel
theorem dX12_least_17 : decode cX12_least 17 = .ok (.bipush (-2), 2) := by decide +kernel
theorem dX12_least_19 : decode cX12_least 19 = .ok (.ireturn, 1) := by decide +kernel
theorem dX12_once_0 : decode cX12_once 0 = .ok (.aload_n 0, 1) := by decide +kernel
theorem dX12_once_1 : decode cX12_once 1 = .ok (.iload_n 1, 1) := by decide +kernel
theorem dX12_once_2 : decode cX12_once 2 = .ok (.invokevirtual 258, 3) := by decide +kernel
theorem dX12_once_5 : decode cX12_once 5 = .ok (.ifCond .eq 19, 3) := by decide +kernel
theorem dX12_once_8 : decode cX12_once 8 = .ok (.aload_n 0, 1) := by decide +kernel
theorem dX12_once_9 : decode cX12_once 9 = .ok (.iload_n 1, 1) := by decide +kernel
theorem dX12_once_10 : decode cX12_once 10 = .ok (.aload_n 0, 1) := by decide +kernel
theorem dX12_once_11 : decode cX12_once 11 = .ok (.invokevirtual 81, 3) := by decide +kernel
theorem dX12_once_14 : decode cX12_once 14 = .ok (.aload_n 0, 1) := by decide +kernel
theorem dX12_once_15 : decode cX12_once 15 = .ok (.invokevirtual 315, 3) := by decide +kernel
theorem dX12_once_18 : decode cX12_once 18 = .ok (.invokevirtual 246, 3) := by decide +kernel
theorem dX12_once_21 : decode cX12_once 21 = .ok (.goto 5, 3) := by decide +kernel
theorem dX12_once_24 : decode cX12_once 24 = .ok (.bipush (-2), 2) := by decide +kernel
theorem dX12_once_26 : decode cX12_once 26 = .ok (.ireturn, 1) := by decide +kernel
theorem dX12_risk_0 : decode cX12_risk 0 = .ok (.aload_n 0, 1) := by decide +kernel
theorem dX12_risk_1 : decode cX12_risk 1 = .ok (.iload_n 1, 1) := by decide +kernel
theorem dX12_risk_2 : decode cX12_risk 2 = .ok (.invokevirtual 258, 3) := by decide +kernel
theorem dX12_risk_5 : decode cX12_risk 5 = .ok (.ifCond .eq 12, 3) := by decide +kernel
theorem dX12_risk_8 : decode cX12_risk 8 = .ok (.aload_n 0, 1) := by decide +kernel
theorem dX12_risk_9 : decode cX12_risk 9 = .ok (.iconst 4, 1) := by decide +kernel
theorem dX12_risk_10 : decode cX12_risk 10 = .ok (.iload_n 1, 1) := by decide +kernel
theorem dX12_risk_11 : decode cX12_risk 11 = .ok (.invokevirtual 342, 3) := by decide +kernel
theorem dX12_risk_14 : decode cX12_risk 14 = .ok (.goto 5, 3) := by decide +kernel
theorem dX12_risk_17 : decode cX12_risk 17 = .ok (.bipush (-2), 2) := by decide +kernel
theorem dX12_risk_19 : decode cX12_risk 19 = .ok (.ireturn, 1) := by decide +kernel
theorem dX12_shock_0 : decode cX12_shock 0 = .ok (.aload_n 0, 1) := by decide +kernel
theorem dX12_shock_1 : decode cX12_shock 1 = .ok (.iload_n 1, 1) := by decide +kernel
theorem dX12_shock_2 : decode cX12_shock 2 = .ok (.invokevirtual 258, 3) := by decide +kernel
theorem dX12_shock_5 : decode cX12_shock 5 = .ok (.ifCond .ne 6, 3) := by decide +kernel
theorem dX12_shock_8 : decode cX12_shock 8 = .ok (.bipush (-2), 2) := by decide +kernel
theorem dX12_shock_10 : decode cX12_shock 10 = .ok (.ireturn, 1) := by decide +kernel
theorem dX12_shock_11 : decode cX12_shock 11 = .ok (.iconst 0, 1) := by decide +kernel
theorem dX12_shock_12 : decode cX12_shock 12 = .ok (.istore_n 2, 1) := by decide +kernel
theorem dX12_shock_13 : decode cX12_shock 13 = .ok (.iconst 1, 1) := by decide +kernel
theorem dX12_shock_14 : decode cX12_shock 14 = .ok (.istore_n 3, 1) := by decide +kernel
theorem dX12_shock_15 : decode cX12_shock 15 = .ok (.iload_n 3, 1) := by decide +kernel
theorem dX12_shock_16 : decode cX12_shock 16 = .ok (.aload_n 0, 1) := by decide +kernel
theorem dX12_shock_17 : decode cX12_shock 17 = .ok (.getfield 9, 3) := by decide +kernel
theorem dX12_shock_20 : decode cX12_shock 20 = .ok (.iconst 0, 1) := by decide +kernel
theorem dX12_shock_21 : decode cX12_shock 21 = .ok (.iaload, 1) := by decide +kernel
theorem dX12_shock_22 : decode cX12_shock 22 = .ok (.if_icmp .ge 42, 3) := by decide +kernel
theorem dX12_shock_25 : decode cX12_shock 25 = .ok (.aload_n 0, 1) := by decide +kernel
theorem dX12_shock_26 : decode cX12_shock 26 = .ok (.iload_n 1, 1) := by decide +kernel
theorem dX12_shock_27 : decode cX12_shock 27 = .ok (.aload_n 0, 1) := by decide +kernel
theorem dX12_shock_28 : decode cX12_shock 28 = .ok (.invokevirtual 81, 3) := by decide +kernel
theorem dX12_shock_31 : decode cX12_shock 31 = .ok (.iconst 1, 1) := by decide +kernel
theorem dX12_shock_32 : decode cX12_shock 32 = .ok (.iload_n 3, 1) := by decide +kernel
theorem dX12_shock_33 : decode cX12_shock 33 = .ok (.ishl, 1) := by decide +kernel
theorem dX12_shock_34 : decode cX12_shock 34 = .ok (.invokevirtual 246, 3) := by decide +kernel
theorem dX12_shock_37 : decode cX12_shock 37 = .ok (.aload_n 0, 1) := by decide +kernel
theorem dX12_shock_38 : decode cX12_shock 38 = .ok (.iload_n 1, 1) := by decide +kernel
theorem dX12_shock_39 : decode cX12_shock 39 = .ok (.aload_n 0, 1) := by decide +kernel
theorem dX12_shock_40 : decode cX12_shock 40 = .ok (.invokevirtual 81, 3) := by decide +kernel
theorem dX12_shock_43 : decode cX12_shock 43 = .ok (.iconst 1, 1) := by decide +kernel
theorem dX12_shock_44 : decode cX12_shock 44 = .ok (.iload_n 2, 1) := by decide +kernel
theorem dX12_shock_45 : decode cX12_shock 45 = .ok (.ishl, 1) := by decide +kernel
theorem dX12_shock_46 : decode cX12_shock 46 = .ok (.invokevirtual 246, 3) := by decide +kernel
theorem dX12_shock_49 : decode cX12_shock 49 = .ok (.if_icmp .le 7, 3) := by decide +kernel
theorem dX12_shock_52 : decode cX12_shock 52 = .ok (.iload_n 3, 1) := by decide +kernel
theorem dX12_shock_53 : decode cX12_shock 53 = .ok (.goto 4, 3) := by decide +kernel
theorem dX12_shock_56 : decode cX12_shock 56 = .ok (.iload_n 2, 1) := by decide +kernel
theorem dX12_shock_57 : decode cX12_shock 57 = .ok (.istore_n 2, 1) := by decide +kernel
theorem dX12_shock_58 : decode cX12_shock 58 = .ok (.iinc 3 1, 3) := by decide +kernel
theorem dX12_shock_61 : decode cX12_shock 61 = .ok (.goto (-46), 3) := by decide +kernel
theorem dX12_shock_64 : decode cX12_shock 64 = .ok (.iload_n 2, 1) := by decide +kernel
theorem dX12_shock_65 : decode cX12_shock 65 = .ok (.ireturn, 1) := by decide +kernel
theorem dX12_step_0 : decode cX12_step 0 = .ok (.aload_n 0, 1) := by decide +kernel
theorem dX12_step_1 : decode cX12_step 1 = .ok (.iload_n 1, 1) := by decide +kernel
theorem dX12_step_2 : decode cX12_step 2 = .ok (.invokevirtual 258, 3) := by decide +kernel
theorem dX12_step_5 : decode cX12_step 5 = .ok (.ifCond .eq 21, 3) := by decide +kernel
theorem dX12_step_8 : decode cX12_step 8 = .ok (.aload_n 0, 1) := by decide +kernel
theorem dX12_step_9 : decode cX12_step 9 = .ok (.iload_n 2, 1) := by decide +kernel
theorem dX12_step_10 : decode cX12_step 10 = .ok (.invokevirtual 348, 3) := by decide +kernel
theorem dX12_step_13 : decode cX12_step 13 = .ok (.ifCond .eq 13, 3) := by decide +kernel
theorem dX12_step_16 : decode cX12_step 16 = .ok (.aload_n 0, 1) := by decide +kernel
theorem dX12_step_17 : decode cX12_step 17 = .ok (.iconst 0, 1) := by decide +kernel
theorem dX12_step_18 : decode cX12_step 18 = .ok (.iload_n 1, 1) := by decide +kernel
theorem dX12_step_19 : decode cX12_step 19 = .ok (.iload_n 2, 1) := by decide +kernel
theorem dX12_step_20 : decode cX12_step 20 = .ok (.invokevirtual 351, 3) := by decide +kernel
theorem dX12_step_23 : decode cX12_step 23 = .ok (.goto 5, 3) := by decide +kernel
theorem dX12_step_26 : decode cX12_step 26 = .ok (.bipush (-2), 2) := by decide +kernel
theorem dX12_step_28 : decode cX12_step 28 = .ok (.ireturn, 1) := by decide +kernel
theorem dX12_tender_0 : decode cX12_tender 0 = .ok (.aload_n 0, 1) := by decide +kernel
theorem dX12_tender_1 : decode cX12_tender 1 = .ok (.iload_n 1, 1) := by decide +kernel
theorem dX12_tender_2 : decode cX12_tender 2 = .ok (.invokevirtual 258, 3) := by decide +kernel
theorem dX12_tender_5 : decode cX12_tender 5 = .ok (.ifCond .eq 12, 3) := by decide +kernel
theorem dX12_tender_8 : decode cX12_tender 8 = .ok (.aload_n 0, 1) := by decide +kernel
theorem dX12_tender_9 : decode cX12_tender 9 = .ok (.iconst 5, 1) := by decide +kernel
theorem dX12_tender_10 : decode cX12_tender 10 = .ok (.iload_n 1, 1) := by decide +kernel
theorem dX12_tender_11 : decode cX12_tender 11 = .ok (.invokevirtual 342, 3) := by decide +kernel
theorem dX12_tender_14 : decode cX12_tender 14 = .ok (.goto 5, 3) := by decide +kernel
theorem dX12_tender_17 : decode cX12_tender 17 = .ok (.bipush (-2), 2) := by decide +kernel
theorem dX12_tender_19 : decode cX12_tender 19 = .ok (.ireturn, 1) := by decide +kernel
theorem dX12_tenderly_0 : decode cX12_tenderly 0 = .ok (.aload_n 0, 1) := by decide +kernel
theorem dX12_tenderly_1 : decode cX12_tenderly 1 = .ok (.iload_n 1, 1) := by decide +kernel
theorem dX12_tenderly_2 : decode cX12_tenderly 2 = .ok (.invokevirtual 258, 3) := by decide +kernel
theorem dX12_tenderly_5 : decode cX12_tenderly 5 = .ok (.ifCond .eq 21, 3) := by decide +kernel
theorem dX12_tenderly_8 : decode cX12_tenderly 8 = .ok (.aload_n 0, 1) := by decide +kernel
theorem dX12_tenderly_9 : decode cX12_tenderly 9 = .ok (.iload_n 2, 1) := by decide +kernel
theorem dX12_tenderly_10 : decode cX12_tenderly 10 = .ok (.invokevirtual 348, 3) := by decide +kernel
theorem dX12_tenderly_13 : decode cX12_tenderly 13 = .ok (.ifCond .eq 13, 3) := by decide +kernel
theorem dX12_tenderly_16 : decode cX12_tenderly 16 = .ok (.aload_n 0, 1) := by decide +kernel
theorem dX12_tenderly_17 : decode cX12_tenderly 17 = .ok (.iconst 5, 1) := by decide +kernel
theorem dX12_tenderly_18 : decode cX12_tenderly 18 = .ok (.iload_n 1, 1) := by decide +kernel
theorem dX12_tenderly_19 : decode cX12_tenderly 19 = .ok (.iload_n 2, 1) := by decide +kernel
theorem dX12_tenderly_20 : decode cX12_tenderly 20 = .ok (.invokevirtual 351, 3) := by decide +kernel
theorem dX12_tenderly_23 : decode cX12_tenderly 23 = .ok (.goto 5, 3) := by decide +kernel
theorem dX12_tenderly_26 : decode cX12_tenderly 26 = .ok (.bipush (-2), 2) := by decide +kernel
theorem dX12_tenderly_28 : decode cX12_tenderly 28 = .ok (.ireturn, 1) := by decide +kernel
theorem dX12_truly_0 : decode cX12_truly 0 = .ok (.aload_n 0, 1) := by decide +kernel
theorem dX12_truly_1 : decode cX12_truly 1 = .ok (.iload_n 1, 1) := by decide +kernel
theorem dX12_truly_2 : decode cX12_truly 2 = .ok (.invokevirtual 258, 3) := by decide +kernel
theorem dX12_truly_5 : decode cX12_truly 5 = .ok (.ifCond .eq 12, 3) := by decide +kernel
theorem dX12_truly_8 : decode cX12_truly 8 = .ok (.aload_n 0, 1) := by decide +kernel
theorem dX12_truly_9 : decode cX12_truly 9 = .ok (.iconst 1, 1) := by decide +kernel
theorem dX12_truly_10 : decode cX12_truly 10 = .ok (.iload_n 1, 1) := by decide +kernel
theorem dX12_truly_11 : decode cX12_truly 11 = .ok (.invokevirtual 342, 3) := by decide +kernel
theorem dX12_truly_14 : decode cX12_truly 14 = .ok (.goto 5, 3) := by decide +kernel
theorem dX12_truly_17 : decode cX12_truly 17 = .ok (.bipush (-2), 2) := by decide +kernel
theorem dX12_truly_19 : decode cX12_truly 19 = .ok (.ireturn, 1) := by decide +kernel
theorem dX12_weekBy_0 : decode cX12_weekBy 0 = .ok (.aload_n 0, 1) := by decide +kernel
theorem dX12_weekBy_1 : decode cX12_weekBy 1 = .ok (.iload_n 1, 1) := by decide +kernel
theorem dX12_weekBy_2 : decode cX12_weekBy 2 = .ok (.iload_n 2, 1) := by decide +kernel
theorem dX12_weekBy_3 : decode cX12_weekBy 3 = .ok (.aload_n 0, 1) := by decide +kernel
theorem dX12_weekBy_4 : decode cX12_weekBy 4 = .ok (.getfield 9, 3) := by decide +kernel
theorem dX12_weekBy_7 : decode cX12_weekBy 7 = .ok (.iconst 2, 1) := by decide +kernel
theorem dX12_weekBy_8 : decode cX12_weekBy 8 = .ok (.iaload, 1) := by decide +kernel
theorem dX12_weekBy_9 : decode cX12_weekBy 9 = .ok (.invokevirtual 338, 3) := by decide +kernel
theorem dX12_weekBy_12 : decode cX12_weekBy 12 = .ok (.aload_n 0, 1) := by decide +kernel
theorem dX12_weekBy_13 : decode cX12_weekBy 13 = .ok (.getfield 34, 3) := by decide +kernel
theorem dX12_weekBy_16 : decode cX12_weekBy 16 = .ok (.aload_n 0, 1) := by decide +kernel
theorem dX12_weekBy_17 : decode cX12_weekBy 17 = .ok (.invokevirtual 81, 3) := by decide +kernel
theorem dX12_weekBy_20 : decode cX12_weekBy 20 = .ok (.iaload, 1) := by decide +kernel
theorem dX12_weekBy_21 : decode cX12_weekBy 21 = .ok (.istore_n 3, 1) := by decide +kernel
theorem dX12_weekBy_22 : decode cX12_weekBy 22 = .ok (.iload_n 3, 1) := by decide +kernel
theorem dX12_weekBy_23 : decode cX12_weekBy 23 = .ok (.ldc_w 321, 3) := by decide +kernel
theorem dX12_weekBy_26 : decode cX12_weekBy 26 = .ok (.if_icmp .lt 7, 3) := by decide +kernel
theorem dX12_weekBy_29 : decode cX12_weekBy 29 = .ok (.iconst (-1), 1) := by decide +kernel
theorem dX12_weekBy_30 : decode cX12_weekBy 30 = .ok (.goto 4, 3) := by decide +kernel
theorem dX12_weekBy_33 : decode cX12_weekBy 33 = .ok (.iload_n 3, 1) := by decide +kernel
theorem dX12_weekBy_34 : decode cX12_weekBy 34 = .ok (.ireturn, 1) := by decide +kernel
theorem dX12_wordBy_0 : decode cX12_wordBy 0 = .ok (.aload_n 0, 1) := by decide +kernel
theorem dX12_wordBy_1 : decode cX12_wordBy 1 = .ok (.iload_n 1, 1) := by decide +kernel
theorem dX12_wordBy_2 : decode cX12_wordBy 2 = .ok (.iload_n 2, 1) := by decide +kernel
theorem dX12_wordBy_3 : decode cX12_wordBy 3 = .ok (.invokevirtual 342, 3) := by decide +kernel
theorem dX12_wordBy_6 : decode cX12_wordBy 6 = .ok (.istore 4, 2) := by decide +kernel
theorem dX12_wordBy_8 : decode cX12_wordBy 8 = .ok (.iload 4, 2) := by decide +kernel
theorem dX12_wordBy_10 : decode cX12_wordBy 10 = .ok (.iconst (-1), 1) := by decide +kernel
theorem dX12_wordBy_11 : decode cX12_wordBy 11 = .ok (.if_icmp .ne 5, 3) := by decide +kernel
theorem dX12_wordBy_14 : decode cX12_wordBy 14 = .ok (.iconst (-1), 1) := by decide +kernel
theorem dX12_wordBy_15 : decode cX12_wordBy 15 = .ok (.ireturn, 1) := by decide +kernel
theorem dX12_wordBy_16 : decode cX12_wordBy 16 = .ok (.iload_n 1, 1) := by decide +kernel
theorem dX12_wordBy_17 : decode cX12_wordBy 17 = .ok (.iconst 2, 1) := by decide +kernel
theorem dX12_wordBy_18 : decode cX12_wordBy 18 = .ok (.if_icmp .eq 8, 3) := by decide +kernel
theorem dX12_wordBy_21 : decode cX12_wordBy 21 = .ok (.iload_n 1, 1) := by decide +kernel
theorem dX12_wordBy_22 : decode cX12_wordBy 22 = .ok (.iconst 5, 1) := by decide +kernel
theorem dX12_wordBy_23 : decode cX12_wordBy 23 = .ok (.if_icmp .ne 7, 3) := by decide +kernel
theorem dX12_wordBy_26 : decode cX12_wordBy 26 = .ok (.iconst 1, 1) := by decide +kernel
theorem dX12_wordBy_27 : decode cX12_wordBy 27 = .ok (.goto 4, 3) := by decide +kernel
theorem dX12_wordBy_30 : decode cX12_wordBy 30 = .ok (.iconst 0, 1) := by decide +kernel
theorem dX12_wordBy_31 : decode cX12_wordBy 31 = .ok (.istore 5, 2) := by decide +kernel
theorem dX12_wordBy_33 : decode cX12_wordBy 33 = .ok (.aload_n 0, 1) := by decide +kernel
theorem dX12_wordBy_34 : decode cX12_wordBy 34 = .ok (.invokevirtual 81, 3) := by decide +kernel
theorem dX12_wordBy_37 : decode cX12_wordBy 37 = .ok (.istore 6, 2) := by decide +kernel
theorem dX12_wordBy_39 : decode cX12_wordBy 39 = .ok (.iconst 0, 1) := by decide +kernel
theorem dX12_wordBy_40 : decode cX12_wordBy 40 = .ok (.istore 7, 2) := by decide +kernel
theorem dX12_wordBy_42 : decode cX12_wordBy 42 = .ok (.iload 7, 2) := by decide +kernel
theorem dX12_wordBy_44 : decode cX12_wordBy 44 = .ok (.iload_n 3, 1) := by decide +kernel
theorem dX12_wordBy_45 : decode cX12_wordBy 45 = .ok (.if_icmp .ge 43, 3) := by decide +kernel
theorem dX12_wordBy_48 : decode cX12_wordBy 48 = .ok (.aload_n 0, 1) := by decide +kernel
theorem dX12_wordBy_49 : decode cX12_wordBy 49 = .ok (.iload 6, 2) := by decide +kernel
theorem dX12_wordBy_51 : decode cX12_wordBy 51 = .ok (.iload 5, 2) := by decide +kernel
theorem dX12_wordBy_53 : decode cX12_wordBy 53 = .ok (.ifCond .eq 16, 3) := by decide +kernel
theorem dX12_wordBy_56 : decode cX12_wordBy 56 = .ok (.aload_n 0, 1) := by decide +kernel
theorem dX12_wordBy_57 : decode cX12_wordBy 57 = .ok (.iload 7, 2) := by decide +kernel
theorem dX12_wordBy_59 : decode cX12_wordBy 59 = .ok (.iload 6, 2) := by decide +kernel
theorem dX12_wordBy_61 : decode cX12_wordBy 61 = .ok (.iload 4, 2) := by decide +kernel
theorem dX12_wordBy_63 : decode cX12_wordBy 63 = .ok (.invokevirtual 345, 3) := by decide +kernel
theorem dX12_wordBy_66 : decode cX12_wordBy 66 = .ok (.goto 11, 3) := by decide +kernel
theorem dX12_wordBy_69 : decode cX12_wordBy 69 = .ok (.aload_n 0, 1) := by decide +kernel
theorem dX12_wordBy_70 : decode cX12_wordBy 70 = .ok (.iload 7, 2) := by decide +kernel
theorem dX12_wordBy_72 : decode cX12_wordBy 72 = .ok (.iload 6, 2) := by decide +kernel
theorem dX12_wordBy_74 : decode cX12_wordBy 74 = .ok (.invokevirtual 332, 3) := by decide +kernel
theorem dX12_wordBy_77 : decode cX12_wordBy 77 = .ok (.invokevirtual 243, 3) := by decide +kernel
theorem dX12_wordBy_80 : decode cX12_wordBy 80 = .ok (.istore 6, 2) := by decide +kernel
theorem dX12_wordBy_82 : decode cX12_wordBy 82 = .ok (.iinc 7 1, 3) := by decide +kernel
theorem dX12_wordBy_85 : decode cX12_wordBy 85 = .ok (.goto (-43), 3) := by decide +kernel
theorem dX12_wordBy_88 : decode cX12_wordBy 88 = .ok (.iload 5, 2) := by decide +kernel
theorem dX12_wordBy_90 : decode cX12_wordBy 90 = .ok (.ifCond .eq 15, 3) := by decide +kernel
theorem dX12_wordBy_93 : decode cX12_wordBy 93 = .ok (.aload_n 0, 1) := by decide +kernel
theorem dX12_wordBy_94 : decode cX12_wordBy 94 = .ok (.iload_n 3, 1) := by decide +kernel
theorem dX12_wordBy_95 : decode cX12_wordBy 95 = .ok (.iload 6, 2) := by decide +kernel
theorem dX12_wordBy_97 : decode cX12_wordBy 97 = .ok (.iload 4, 2) := by decide +kernel
theorem dX12_wordBy_99 : decode cX12_wordBy 99 = .ok (.invokevirtual 345, 3) := by decide +kernel
theorem dX12_wordBy_102 : decode cX12_wordBy 102 = .ok (.goto 10, 3) := by decide +kernel
theorem dX12_wordBy_105 : decode cX12_wordBy 105 = .ok (.aload_n 0, 1) := by decide +kernel
theorem dX12_wordBy_106 : decode cX12_wordBy 106 = .ok (.iload_n 3, 1) := by decide +kernel
theorem dX12_wordBy_107 : decode cX12_wordBy 107 = .ok (.iload 6, 2) := by decide +kernel
theorem dX12_wordBy_109 : decode cX12_wordBy 109 = .ok (.invokevirtual 332, 3) := by decide +kernel
theorem dX12_wordBy_112 : decode cX12_wordBy 112 = .ok (.ireturn, 1) := by decide +kernel
theorem dX12_wordWithin_0 : decode cX12_wordWithin 0 = .ok (.iconst 0, 1) := by decide +kernel
theorem dX12_wordWithin_1 : decode cX12_wordWithin 1 = .ok (.istore 4, 2) := by decide +kernel
theorem dX12_wordWithin_3 : decode cX12_wordWithin 3 = .ok (.iload 4, 2) := by decide +kernel
theorem dX12_wordWithin_5 : decode cX12_wordWithin 5 = .ok (.aload_n 0, 1) := by decide +kernel
theorem dX12_wordWithin_6 : decode cX12_wordWithin 6 = .ok (.getfield 9, 3) := by decide +kernel
theorem dX12_wordWithin_9 : decode cX12_wordWithin 9 = .ok (.bipush 6, 2) := by decide +kernel
theorem dX12_wordWithin_11 : decode cX12_wordWithin 11 = .ok (.iaload, 1) := by decide +kernel
theorem dX12_wordWithin_12 : decode cX12_wordWithin 12 = .ok (.if_icmp .ge 24, 3) := by decide +kernel
theorem dX12_wordWithin_15 : decode cX12_wordWithin 15 = .ok (.aload_n 0, 1) := by decide +kernel
theorem dX12_wordWithin_16 : decode cX12_wordWithin 16 = .ok (.iload_n 1, 1) := by decide +kernel
theorem dX12_wordWithin_17 : decode cX12_wordWithin 17 = .ok (.iload_n 2, 1) := by decide +kernel
theorem dX12_wordWithin_18 : decode cX12_wordWithin 18 = .ok (.iload 4, 2) := by decide +kernel
theorem dX12_wordWithin_20 : decode cX12_wordWithin 20 = .ok (.invokevirtual 328, 3) := by decide +kernel
theorem dX12_wordWithin_23 : decode cX12_wordWithin 23 = .ok (.iload_n 3, 1) := by decide +kernel
theorem dX12_wordWithin_24 : decode cX12_wordWithin 24 = .ok (.if_icmp .gt 6, 3) := by decide +kernel
theorem dX12_wordWithin_27 : decode cX12_wordWithin 27 = .ok (.iload 4, 2) := by decide +kernel
theorem dX12_wordWithin_29 : decode cX12_wordWithin 29 = .ok (.ireturn, 1) := by decide +kernel
theorem dX12_wordWithin_30 : decode cX12_wordWithin 30 = .ok (.iinc 4 1, 3) := by decide +kernel
theorem dX12_wordWithin_33 : decode cX12_wordWithin 33 = .ok (.goto (-30), 3) := by decide +kernel
theorem dX12_wordWithin_36 : decode cX12_wordWithin 36 = .ok (.bipush 8, 2) := by decide +kernel
theorem dX12_wordWithin_38 : decode cX12_wordWithin 38 = .ok (.ireturn, 1) := by decide +kernel
