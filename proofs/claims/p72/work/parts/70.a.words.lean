theorem b_1046 : Cond.fieldLink RX12 43 "GentleLettersModel" "letters" "[I" ∈ BIG := bi (tin_6 _ (List.mem_of_getElem? (i := 124) rfl)) rfl
theorem b_1047 : Cond.methodLink RX12 395 yX12_leftBy ∈ BIG := bi (tin_8 _ (List.mem_of_getElem? (i := 238) rfl)) rfl
theorem b_1048 : Cond.fieldLink RX12 46 "GentleLettersModel" "bestLetters" "[I" ∈ BIG := bi (tin_6 _ (List.mem_of_getElem? (i := 125) rfl)) rfl
theorem b_1049 : Cond.constantLong RX12 398 (4) ∈ BIG := bi (tin_8 _ (List.mem_of_getElem? (i := 229) rfl)) rfl
theorem b_1050 : Cond.methodLink RX12 127 yJ9_min_7cf53 ∈ BIG := bi (tin_6 _ (List.mem_of_getElem? (i := 230) rfl)) rfl
theorem b_1051 : Cond.methodLink RX12 400 yX12_areLetters ∈ BIG := bi (tin_8 _ (List.mem_of_getElem? (i := 225) rfl)) rfl
theorem b_1052 : Cond.methodLink RX12 403 yX12_lettersOf ∈ BIG := bi (tin_8 _ (List.mem_of_getElem? (i := 230) rfl)) rfl
theorem b_1053 : Cond.methodLink RX12 406 yX12_joinedBy ∈ BIG := bi (tin_8 _ (List.mem_of_getElem? (i := 234) rfl)) rfl
theorem b_1054 : Cond.methodLink RX12 409 yX12_allHearers ∈ BIG := bi (tin_9 _ (List.mem_of_getElem? (i := 14) rfl)) rfl
theorem b_1055 : Cond.methodLink RX12 412 yX12_heardBy ∈ BIG := bi (tin_9 _ (List.mem_of_getElem? (i := 18) rfl)) rfl
theorem b_1056 : Cond.methodLink RX12 415 yX12_firstOf ∈ BIG := bi (tin_9 _ (List.mem_of_getElem? (i := 26) rfl)) rfl
theorem b_1057 : Cond.constantLong RX12 428 (1103515245) ∈ BIG := bi (tin_9 _ (List.mem_of_getElem? (i := 80) rfl)) rfl
theorem b_1058 : Cond.constantLong RX12 430 (12345) ∈ BIG := bi (tin_9 _ (List.mem_of_getElem? (i := 81) rfl)) rfl
theorem b_1059 : Cond.constantLong RX12 432 (2147483648) ∈ BIG := bi (tin_9 _ (List.mem_of_getElem? (i := 82) rfl)) rfl
theorem b_1060 : Cond.constantLong RX12 434 (65536) ∈ BIG := bi (tin_9 _ (List.mem_of_getElem? (i := 83) rfl)) rfl
theorem b_1061 : Cond.methodLink RX12 438 yX12_isSeed ∈ BIG := bi (tin_9 _ (List.mem_of_getElem? (i := 72) rfl)) rfl
theorem b_1062 : Cond.methodLink RX12 441 yX12_leakBy ∈ BIG := bi (tin_9 _ (List.mem_of_getElem? (i := 76) rfl)) rfl
theorem b_1063 : Cond.constantLong RX12 426 (20) ∈ BIG := bi (tin_9 _ (List.mem_of_getElem? (i := 63) rfl)) rfl
theorem b_1064 : Cond.constantLong RX12 445 (9) ∈ BIG := bi (tin_9 _ (List.mem_of_getElem? (i := 92) rfl)) rfl
theorem b_1065 : Cond.fieldLink RX12 97 "GentleLettersModel" "taped" "I" ∈ BIG := bi (tin_6 _ (List.mem_of_getElem? (i := 106) rfl)) rfl
theorem b_1066 : Cond.code yX12_allHearers cX12_allHearers 1 (some .int) ∈ BIG := bi (tin_9 _ (List.mem_of_getElem? (i := 17) rfl)) rfl
theorem b_1067 : Cond.instanceMethod yX12_allHearers ∈ BIG := bi (tin_9 _ (List.mem_of_getElem? (i := 16) rfl)) rfl
theorem b_1068 : Cond.selects RX12 yX12_allHearers yX12_allHearers ∈ BIG := bi (sin_11 _ (List.mem_map.mpr ⟨(yX12_allHearers, 29), List.mem_of_getElem? (i := 6) rfl, rfl⟩)) rfl
theorem b_1069 : Cond.code yX12_areLetters cX12_areLetters 2 (some .boolean) ∈ BIG := bi (tin_8 _ (List.mem_of_getElem? (i := 228) rfl)) rfl
theorem b_1070 : Cond.instanceMethod yX12_areLetters ∈ BIG := bi (tin_8 _ (List.mem_of_getElem? (i := 227) rfl)) rfl
theorem b_1071 : Cond.selects RX12 yX12_areLetters yX12_areLetters ∈ BIG := bi (sin_11 _ (List.mem_map.mpr ⟨(yX12_areLetters, 29), List.mem_of_getElem? (i := 2) rfl, rfl⟩)) rfl
theorem b_1072 : Cond.code yX12_firstOf cX12_firstOf 3 (some .int) ∈ BIG := bi (tin_9 _ (List.mem_of_getElem? (i := 29) rfl)) rfl
theorem b_1073 : Cond.instanceMethod yX12_firstOf ∈ BIG := bi (tin_9 _ (List.mem_of_getElem? (i := 28) rfl)) rfl
theorem b_1074 : Cond.selects RX12 yX12_firstOf yX12_firstOf ∈ BIG := bi (sin_11 _ (List.mem_map.mpr ⟨(yX12_firstOf, 29), List.mem_of_getElem? (i := 8) rfl, rfl⟩)) rfl
theorem b_1075 : Cond.code yX12_heardBy cX12_heardBy 7 (some .int) ∈ BIG := bi (tin_9 _ (List.mem_of_getElem? (i := 21) rfl)) rfl
theorem b_1076 : Cond.instanceMethod yX12_heardBy ∈ BIG := bi (tin_9 _ (List.mem_of_getElem? (i := 20) rfl)) rfl
theorem b_1077 : Cond.selects RX12 yX12_heardBy yX12_heardBy ∈ BIG := bi (sin_11 _ (List.mem_map.mpr ⟨(yX12_heardBy, 29), List.mem_of_getElem? (i := 7) rfl, rfl⟩)) rfl
theorem b_1078 : Cond.code yX12_isSeed cX12_isSeed 1 (some .boolean) ∈ BIG := bi (tin_9 _ (List.mem_of_getElem? (i := 74) rfl)) rfl
theorem b_1079 : Cond.static yX12_isSeed ∈ BIG := bi (tin_9 _ (List.mem_of_getElem? (i := 73) rfl)) rfl
theorem b_1080 : Cond.code yX12_joinedBy cX12_joinedBy 8 (some .int) ∈ BIG := bi (tin_8 _ (List.mem_of_getElem? (i := 237) rfl)) rfl
theorem b_1081 : Cond.instanceMethod yX12_joinedBy ∈ BIG := bi (tin_8 _ (List.mem_of_getElem? (i := 236) rfl)) rfl
theorem b_1082 : Cond.selects RX12 yX12_joinedBy yX12_joinedBy ∈ BIG := bi (sin_11 _ (List.mem_map.mpr ⟨(yX12_joinedBy, 29), List.mem_of_getElem? (i := 4) rfl, rfl⟩)) rfl
theorem b_1083 : Cond.code yX12_leakBy cX12_leakBy 6 (some .int) ∈ BIG := bi (tin_9 _ (List.mem_of_getElem? (i := 79) rfl)) rfl
theorem b_1084 : Cond.instanceMethod yX12_leakBy ∈ BIG := bi (tin_9 _ (List.mem_of_getElem? (i := 78) rfl)) rfl
theorem b_1085 : Cond.selects RX12 yX12_leakBy yX12_leakBy ∈ BIG := bi (sin_11 _ (List.mem_map.mpr ⟨(yX12_leakBy, 29), List.mem_of_getElem? (i := 11) rfl, rfl⟩)) rfl
theorem b_1086 : Cond.code yX12_leftBy cX12_leftBy 6 (some .int) ∈ BIG := bi (tin_9 _ (List.mem_of_getElem? (i := 1) rfl)) rfl
theorem b_1087 : Cond.instanceMethod yX12_leftBy ∈ BIG := bi (tin_9 _ (List.mem_of_getElem? (i := 0) rfl)) rfl
theorem b_1088 : Cond.selects RX12 yX12_leftBy yX12_leftBy ∈ BIG := bi (sin_11 _ (List.mem_map.mpr ⟨(yX12_leftBy, 29), List.mem_of_getElem? (i := 5) rfl, rfl⟩)) rfl
theorem b_1089 : Cond.code yX12_lettersOf cX12_lettersOf 2 (some .int) ∈ BIG := bi (tin_8 _ (List.mem_of_getElem? (i := 233) rfl)) rfl
theorem b_1090 : Cond.instanceMethod yX12_lettersOf ∈ BIG := bi (tin_8 _ (List.mem_of_getElem? (i := 232) rfl)) rfl
theorem b_1091 : Cond.selects RX12 yX12_lettersOf yX12_lettersOf ∈ BIG := bi (sin_11 _ (List.mem_map.mpr ⟨(yX12_lettersOf, 29), List.mem_of_getElem? (i := 3) rfl, rfl⟩)) rfl
theorem m_yX12_allHearers : MV yX12_allHearers cX12_allHearers 1 (some .int) 0 := ⟨b_1066, b_1067, b_1068, b_810, by decide +kernel⟩
theorem m_yX12_areLetters : MV yX12_areLetters cX12_areLetters 2 (some .boolean) 1 := ⟨b_1069, b_1070, b_1071, b_810, by decide +kernel⟩
theorem m_yX12_firstOf : MV yX12_firstOf cX12_firstOf 3 (some .int) 0 := ⟨b_1072, b_1073, b_1074, b_810, by decide +kernel⟩
theorem m_yX12_heardBy : MV yX12_heardBy cX12_heardBy 7 (some .int) 2 := ⟨b_1075, b_1076, b_1077, b_810, by decide +kernel⟩
theorem m_yX12_isSeed : MS yX12_isSeed cX12_isSeed 1 (some .boolean) 1 := ⟨b_1078, b_1079, b_810, by decide +kernel⟩
theorem m_yX12_joinedBy : MV yX12_joinedBy cX12_joinedBy 8 (some .int) 1 := ⟨b_1080, b_1081, b_1082, b_810, by decide +kernel⟩
theorem m_yX12_leakBy : MV yX12_leakBy cX12_leakBy 6 (some .int) 1 := ⟨b_1083, b_1084, b_1085, b_810, by decide +kernel⟩
theorem m_yX12_leftBy : MV yX12_leftBy cX12_leftBy 6 (some .int) 1 := ⟨b_1086, b_1087, b_1088, b_810, by decide +kernel⟩
theorem m_yX12_lettersOf : MV yX12_lettersOf cX12_lettersOf 2 (some .int) 1 := ⟨b_1089, b_1090, b_1091, b_810, by decide +kernel⟩
theorem dX12_all_0 : decode cX12_all 0 = .ok (.aload_n 0, 1) := by decide +kernel
theorem dX12_all_1 : decode cX12_all 1 = .ok (.invokevirtual 77, 3) := by decide +kernel
theorem dX12_all_4 : decode cX12_all 4 = .ok (.ifCond .eq 11, 3) := by decide +kernel
theorem dX12_all_7 : decode cX12_all 7 = .ok (.aload_n 0, 1) := by decide +kernel
theorem dX12_all_8 : decode cX12_all 8 = .ok (.iconst 1, 1) := by decide +kernel
theorem dX12_all_9 : decode cX12_all 9 = .ok (.invokevirtual 406, 3) := by decide +kernel
theorem dX12_all_12 : decode cX12_all 12 = .ok (.goto 5, 3) := by decide +kernel
theorem dX12_all_15 : decode cX12_all 15 = .ok (.bipush (-2), 2) := by decide +kernel
theorem dX12_all_17 : decode cX12_all 17 = .ok (.ireturn, 1) := by decide +kernel
theorem dX12_areLetters_0 : decode cX12_areLetters 0 = .ok (.aload_n 0, 1) := by decide +kernel
theorem dX12_areLetters_1 : decode cX12_areLetters 1 = .ok (.invokevirtual 77, 3) := by decide +kernel
theorem dX12_areLetters_4 : decode cX12_areLetters 4 = .ok (.ifCond .eq 19, 3) := by decide +kernel
theorem dX12_areLetters_7 : decode cX12_areLetters 7 = .ok (.iload_n 1, 1) := by decide +kernel
theorem dX12_areLetters_8 : decode cX12_areLetters 8 = .ok (.i2l, 1) := by decide +kernel
theorem dX12_areLetters_9 : decode cX12_areLetters 9 = .ok (.lconst 1, 1) := by decide +kernel
theorem dX12_areLetters_10 : decode cX12_areLetters 10 = .ok (.ldc2_w 398, 3) := by decide +kernel
theorem dX12_areLetters_13 : decode cX12_areLetters 13 = .ok (.invokestatic 67, 3) := by decide +kernel
theorem dX12_areLetters_16 : decode cX12_areLetters 16 = .ok (.ifCond .eq 7, 3) := by decide +kernel
theorem dX12_areLetters_19 : decode cX12_areLetters 19 = .ok (.iconst 1, 1) := by decide +kernel
theorem dX12_areLetters_20 : decode cX12_areLetters 20 = .ok (.goto 4, 3) := by decide +kernel
theorem dX12_areLetters_23 : decode cX12_areLetters 23 = .ok (.iconst 0, 1) := by decide +kernel
theorem dX12_areLetters_24 : decode cX12_areLetters 24 = .ok (.ireturn, 1) := by decide +kernel
theorem dX12_count_0 : decode cX12_count 0 = .ok (.iconst 0, 1) := by decide +kernel
theorem dX12_count_1 : decode cX12_count 1 = .ok (.istore_n 2, 1) := by decide +kernel
theorem dX12_count_2 : decode cX12_count 2 = .ok (.iload_n 1, 1) := by decide +kernel
theorem dX12_count_3 : decode cX12_count 3 = .ok (.tableswitch 71 10 12 #[25, 30, 38], 25) := by decide +kernel
theorem dX12_count_28 : decode cX12_count 28 = .ok (.aload_n 0, 1) := by decide +kernel
theorem dX12_count_29 : decode cX12_count 29 = .ok (.getfield 97, 3) := by decide +kernel
theorem dX12_count_32 : decode cX12_count 32 = .ok (.ireturn, 1) := by decide +kernel
theorem dX12_count_33 : decode cX12_count 33 = .ok (.aload_n 0, 1) := by decide +kernel
theorem dX12_count_34 : decode cX12_count 34 = .ok (.getfield 9, 3) := by decide +kernel
theorem dX12_count_37 : decode cX12_count 37 = .ok (.bipush 10, 2) := by decide +kernel
theorem dX12_count_39 : decode cX12_count 39 = .ok (.iaload, 1) := by decide +kernel
theorem dX12_count_40 : decode cX12_count 40 = .ok (.ireturn, 1) := by decide +kernel
theorem dX12_count_41 : decode cX12_count 41 = .ok (.iconst 0, 1) := by decide +kernel
theorem dX12_count_42 : decode cX12_count 42 = .ok (.istore_n 3, 1) := by decide +kernel
theorem dX12_count_43 : decode cX12_count 43 = .ok (.iload_n 3, 1) := by decide +kernel
theorem dX12_count_44 : decode cX12_count 44 = .ok (.iconst 4, 1) := by decide +kernel
theorem dX12_count_45 : decode cX12_count 45 = .ok (.if_icmp .ge 27, 3) := by decide +kernel
theorem dX12_count_48 : decode cX12_count 48 = .ok (.iload_n 2, 1) := by decide +kernel
theorem dX12_count_49 : decode cX12_count 49 = .ok (.aload_n 0, 1) := by decide +kernel
theorem dX12_count_50 : decode cX12_count 50 = .ok (.getfield 49, 3) := by decide +kernel
theorem dX12_count_53 : decode cX12_count 53 = .ok (.iload_n 3, 1) := by decide +kernel
theorem dX12_count_54 : decode cX12_count 54 = .ok (.iaload, 1) := by decide +kernel
theorem dX12_count_55 : decode cX12_count 55 = .ok (.iconst (-1), 1) := by decide +kernel
theorem dX12_count_56 : decode cX12_count 56 = .ok (.if_icmp .ne 7, 3) := by decide +kernel
theorem dX12_count_59 : decode cX12_count 59 = .ok (.iconst 0, 1) := by decide +kernel
theorem dX12_count_60 : decode cX12_count 60 = .ok (.goto 4, 3) := by decide +kernel
theorem dX12_count_63 : decode cX12_count 63 = .ok (.iconst 1, 1) := by decide +kernel
theorem dX12_count_64 : decode cX12_count 64 = .ok (.iadd, 1) := by decide +kernel
theorem dX12_count_65 : decode cX12_count 65 = .ok (.istore_n 2, 1) := by decide +kernel
theorem dX12_count_66 : decode cX12_count 66 = .ok (.iinc 3 1, 3) := by decide +kernel
theorem dX12_count_69 : decode cX12_count 69 = .ok (.goto (-26), 3) := by decide +kernel
theorem dX12_count_72 : decode cX12_count 72 = .ok (.iload_n 2, 1) := by decide +kernel
theorem dX12_count_73 : decode cX12_count 73 = .ok (.ireturn, 1) := by decide +kernel
theorem dX12_count_74 : decode cX12_count 74 = .ok (.iload_n 1, 1) := by decide +kernel
theorem dX12_count_75 : decode cX12_count 75 = .ok (.i2l, 1) := by decide +kernel
theorem dX12_count_76 : decode cX12_count 76 = .ok (.lconst 0, 1) := by decide +kernel
theorem dX12_count_77 : decode cX12_count 77 = .ok (.ldc2_w 445, 3) := by decide +kernel
theorem dX12_count_80 : decode cX12_count 80 = .ok (.invokestatic 67, 3) := by decide +kernel
theorem dX12_count_83 : decode cX12_count 83 = .ok (.ifCond .eq 12, 3) := by decide +kernel
theorem dX12_count_86 : decode cX12_count 86 = .ok (.aload_n 0, 1) := by decide +kernel
theorem dX12_count_87 : decode cX12_count 87 = .ok (.getfield 9, 3) := by decide +kernel
theorem dX12_count_90 : decode cX12_count 90 = .ok (.iload_n 1, 1) := by decide +kernel
theorem dX12_count_91 : decode cX12_count 91 = .ok (.iaload, 1) := by decide +kernel
theorem dX12_count_92 : decode cX12_count 92 = .ok (.goto 4, 3) := by decide +kernel
theorem dX12_count_95 : decode cX12_count 95 = .ok (.iconst (-1), 1) := by decide +kernel
theorem dX12_count_96 : decode cX12_count 96 = .ok (.ireturn, 1) := by decide +kernel
theorem dX12_drawn_0 : decode cX12_drawn 0 = .ok (.aload_n 0, 1) := by decide +kernel
theorem dX12_drawn_1 : decode cX12_drawn 1 = .ok (.iload_n 2, 1) := by decide +kernel
theorem dX12_drawn_2 : decode cX12_drawn 2 = .ok (.iload_n 1, 1) := by decide +kernel
theorem dX12_drawn_3 : decode cX12_drawn 3 = .ok (.invokestatic 438, 3) := by decide +kernel
theorem dX12_drawn_6 : decode cX12_drawn 6 = .ok (.ifCond .eq 26, 3) := by decide +kernel
theorem dX12_drawn_9 : decode cX12_drawn 9 = .ok (.aload_n 0, 1) := by decide +kernel
theorem dX12_drawn_10 : decode cX12_drawn 10 = .ok (.iload_n 3, 1) := by decide +kernel
theorem dX12_drawn_11 : decode cX12_drawn 11 = .ok (.invokevirtual 258, 3) := by decide +kernel
theorem dX12_drawn_14 : decode cX12_drawn 14 = .ok (.ifCond .eq 18, 3) := by decide +kernel
theorem dX12_drawn_17 : decode cX12_drawn 17 = .ok (.iload 4, 2) := by decide +kernel
theorem dX12_drawn_19 : decode cX12_drawn 19 = .ok (.i2l, 1) := by decide +kernel
theorem dX12_drawn_20 : decode cX12_drawn 20 = .ok (.lconst 0, 1) := by decide +kernel
theorem dX12_drawn_21 : decode cX12_drawn 21 = .ok (.lconst 1, 1) := by decide +kernel
theorem dX12_drawn_22 : decode cX12_drawn 22 = .ok (.invokestatic 67, 3) := by decide +kernel
theorem dX12_drawn_25 : decode cX12_drawn 25 = .ok (.ifCond .eq 7, 3) := by decide +kernel
theorem dX12_drawn_28 : decode cX12_drawn 28 = .ok (.iconst 1, 1) := by decide +kernel
theorem dX12_drawn_29 : decode cX12_drawn 29 = .ok (.goto 4, 3) := by decide +kernel
theorem dX12_drawn_32 : decode cX12_drawn 32 = .ok (.iconst 0, 1) := by decide +kernel
theorem dX12_drawn_33 : decode cX12_drawn 33 = .ok (.invokevirtual 299, 3) := by decide +kernel
theorem dX12_drawn_36 : decode cX12_drawn 36 = .ok (.istore 5, 2) := by decide +kernel
theorem dX12_drawn_38 : decode cX12_drawn 38 = .ok (.iload 5, 2) := by decide +kernel
theorem dX12_drawn_40 : decode cX12_drawn 40 = .ok (.ifCond .ge 6, 3) := by decide +kernel
theorem dX12_drawn_43 : decode cX12_drawn 43 = .ok (.iload 5, 2) := by decide +kernel
theorem dX12_drawn_45 : decode cX12_drawn 45 = .ok (.ireturn, 1) := by decide +kernel
theorem dX12_drawn_46 : decode cX12_drawn 46 = .ok (.aload_n 0, 1) := by decide +kernel
theorem dX12_drawn_47 : decode cX12_drawn 47 = .ok (.iload_n 1, 1) := by decide +kernel
theorem dX12_drawn_48 : decode cX12_drawn 48 = .ok (.i2l, 1) := by decide +kernel
theorem dX12_drawn_49 : decode cX12_drawn 49 = .ok (.invokevirtual 441, 3) := by decide +kernel
theorem dX12_drawn_52 : decode cX12_drawn 52 = .ok (.istore 6, 2) := by decide +kernel
theorem dX12_drawn_54 : decode cX12_drawn 54 = .ok (.iload 4, 2) := by decide +kernel
theorem dX12_drawn_56 : decode cX12_drawn 56 = .ok (.ifCond .ne 6, 3) := by decide +kernel
theorem dX12_drawn_59 : decode cX12_drawn 59 = .ok (.iload 6, 2) := by decide +kernel
theorem dX12_drawn_61 : decode cX12_drawn 61 = .ok (.ireturn, 1) := by decide +kernel
theorem dX12_drawn_62 : decode cX12_drawn 62 = .ok (.aload_n 0, 1) := by decide +kernel
theorem dX12_drawn_63 : decode cX12_drawn 63 = .ok (.invokevirtual 81, 3) := by decide +kernel
theorem dX12_drawn_66 : decode cX12_drawn 66 = .ok (.istore 7, 2) := by decide +kernel
theorem dX12_drawn_68 : decode cX12_drawn 68 = .ok (.iconst 0, 1) := by decide +kernel
theorem dX12_drawn_69 : decode cX12_drawn 69 = .ok (.istore 8, 2) := by decide +kernel
theorem dX12_drawn_71 : decode cX12_drawn 71 = .ok (.iconst 0, 1) := by decide +kernel
theorem dX12_drawn_72 : decode cX12_drawn 72 = .ok (.istore 9, 2) := by decide +kernel
theorem dX12_drawn_74 : decode cX12_drawn 74 = .ok (.iload 9, 2) := by decide +kernel
theorem dX12_drawn_76 : decode cX12_drawn 76 = .ok (.aload_n 0, 1) := by decide +kernel
theorem dX12_drawn_77 : decode cX12_drawn 77 = .ok (.getfield 9, 3) := by decide +kernel
theorem dX12_drawn_80 : decode cX12_drawn 80 = .ok (.iconst 2, 1) := by decide +kernel
theorem dX12_drawn_81 : decode cX12_drawn 81 = .ok (.iaload, 1) := by decide +kernel
theorem dX12_drawn_82 : decode cX12_drawn 82 = .ok (.if_icmp .ge 80, 3) := by decide +kernel
theorem dX12_drawn_85 : decode cX12_drawn 85 = .ok (.iload 9, 2) := by decide +kernel
theorem dX12_drawn_87 : decode cX12_drawn 87 = .ok (.iload 6, 2) := by decide +kernel
theorem dX12_drawn_89 : decode cX12_drawn 89 = .ok (.if_icmp .ne 18, 3) := by decide +kernel
theorem dX12_drawn_92 : decode cX12_drawn 92 = .ok (.iload 8, 2) := by decide +kernel
theorem dX12_drawn_94 : decode cX12_drawn 94 = .ok (.aload_n 0, 1) := by decide +kernel
theorem dX12_drawn_95 : decode cX12_drawn 95 = .ok (.iload_n 3, 1) := by decide +kernel
theorem dX12_drawn_96 : decode cX12_drawn 96 = .ok (.iload 7, 2) := by decide +kernel
theorem dX12_drawn_98 : decode cX12_drawn 98 = .ok (.aload_n 0, 1) := by decide +kernel
theorem dX12_drawn_99 : decode cX12_drawn 99 = .ok (.invokevirtual 315, 3) := by decide +kernel
theorem dX12_drawn_102 : decode cX12_drawn 102 = .ok (.invokevirtual 246, 3) := by decide +kernel
theorem dX12_drawn_105 : decode cX12_drawn 105 = .ok (.iadd, 1) := by decide +kernel
theorem dX12_drawn_106 : decode cX12_drawn 106 = .ok (.ireturn, 1) := by decide +kernel
theorem dX12_drawn_107 : decode cX12_drawn 107 = .ok (.iload 9, 2) := by decide +kernel
theorem dX12_drawn_109 : decode cX12_drawn 109 = .ok (.aload_n 0, 1) := by decide +kernel
theorem dX12_drawn_110 : decode cX12_drawn 110 = .ok (.getfield 49, 3) := by decide +kernel
theorem dX12_drawn_113 : decode cX12_drawn 113 = .ok (.iload_n 2, 1) := by decide +kernel
theorem dX12_drawn_114 : decode cX12_drawn 114 = .ok (.iaload, 1) := by decide +kernel
theorem dX12_drawn_115 : decode cX12_drawn 115 = .ok (.if_icmp .ge 13, 3) := by decide +kernel
theorem dX12_drawn_118 : decode cX12_drawn 118 = .ok (.aload_n 0, 1) := by decide +kernel
theorem dX12_drawn_119 : decode cX12_drawn 119 = .ok (.iload_n 2, 1) := by decide +kernel
theorem dX12_drawn_120 : decode cX12_drawn 120 = .ok (.iload 9, 2) := by decide +kernel
theorem dX12_drawn_122 : decode cX12_drawn 122 = .ok (.invokevirtual 303, 3) := by decide +kernel
theorem dX12_drawn_125 : decode cX12_drawn 125 = .ok (.goto 5, 3) := by decide +kernel
theorem dX12_drawn_128 : decode cX12_drawn 128 = .ok (.bipush 8, 2) := by decide +kernel
theorem dX12_drawn_130 : decode cX12_drawn 130 = .ok (.istore 10, 2) := by decide +kernel
theorem dX12_drawn_132 : decode cX12_drawn 132 = .ok (.iload 8, 2) := by decide +kernel
theorem dX12_drawn_134 : decode cX12_drawn 134 = .ok (.aload_n 0, 1) := by decide +kernel
theorem dX12_drawn_135 : decode cX12_drawn 135 = .ok (.iload_n 3, 1) := by decide +kernel
theorem dX12_drawn_136 : decode cX12_drawn 136 = .ok (.iload 7, 2) := by decide +kernel
theorem dX12_drawn_138 : decode cX12_drawn 138 = .ok (.iload 10, 2) := by decide +kernel
theorem dX12_drawn_140 : decode cX12_drawn 140 = .ok (.invokevirtual 289, 3) := by decide +kernel
theorem dX12_drawn_143 : decode cX12_drawn 143 = .ok (.iadd, 1) := by decide +kernel
theorem dX12_drawn_144 : decode cX12_drawn 144 = .ok (.istore 8, 2) := by decide +kernel
theorem dX12_drawn_146 : decode cX12_drawn 146 = .ok (.aload_n 0, 1) := by decide +kernel
theorem dX12_drawn_147 : decode cX12_drawn 147 = .ok (.iload 7, 2) := by decide +kernel
theorem dX12_drawn_149 : decode cX12_drawn 149 = .ok (.iload 10, 2) := by decide +kernel
theorem dX12_drawn_151 : decode cX12_drawn 151 = .ok (.invokevirtual 243, 3) := by decide +kernel
theorem dX12_drawn_154 : decode cX12_drawn 154 = .ok (.istore 7, 2) := by decide +kernel
theorem dX12_drawn_156 : decode cX12_drawn 156 = .ok (.iinc 9 1, 3) := by decide +kernel
theorem dX12_drawn_159 : decode cX12_drawn 159 = .ok (.goto (-85), 3) := by decide +kernel
theorem dX12_drawn_162 : decode cX12_drawn 162 = .ok (.iload 8, 2) := by decide +kernel
theorem dX12_drawn_164 : decode cX12_drawn 164 = .ok (.ireturn, 1) := by decide +kernel
theorem dX12_first_0 : decode cX12_first 0 = .ok (.aload_n 0, 1) := by decide +kernel
theorem dX12_first_1 : decode cX12_first 1 = .ok (.invokevirtual 77, 3) := by decide +kernel
theorem dX12_first_4 : decode cX12_first 4 = .ok (.ifCond .eq 10, 3) := by decide +kernel
theorem dX12_first_7 : decode cX12_first 7 = .ok (.aload_n 0, 1) := by decide +kernel
theorem dX12_first_8 : decode cX12_first 8 = .ok (.invokevirtual 415, 3) := by decide +kernel
theorem dX12_first_11 : decode cX12_first 11 = .ok (.goto 5, 3) := by decide +kernel
theorem dX12_first_14 : decode cX12_first 14 = .ok (.bipush (-2), 2) := by decide +kernel
theorem dX12_first_16 : decode cX12_first 16 = .ok (.ireturn, 1) := by decide +kernel
theorem dX12_firstOf_0 : decode cX12_firstOf 0 = .ok (.aload_n 0, 1) := by decide +kernel
theorem dX12_firstOf_1 : decode cX12_firstOf 1 = .ok (.invokevirtual 409, 3) := by decide +kernel
theorem dX12_firstOf_4 : decode cX12_firstOf 4 = .ok (.istore_n 1, 1) := by decide +kernel
theorem dX12_firstOf_5 : decode cX12_firstOf 5 = .ok (.aload_n 0, 1) := by decide +kernel
theorem dX12_firstOf_6 : decode cX12_firstOf 6 = .ok (.invokevirtual 409, 3) := by decide +kernel
theorem dX12_firstOf_9 : decode cX12_firstOf 9 = .ok (.istore_n 2, 1) := by decide +kernel
theorem dX12_firstOf_10 : decode cX12_firstOf 10 = .ok (.iload_n 2, 1) := by decide +kernel
theorem dX12_firstOf_11 : decode cX12_firstOf 11 = .ok (.ifCond .lt 42, 3) := by decide +kernel
theorem dX12_firstOf_14 : decode cX12_firstOf 14 = .ok (.aload_n 0, 1) := by decide +kernel
theorem dX12_firstOf_15 : decode cX12_firstOf 15 = .ok (.iload_n 2, 1) := by decide +kernel
theorem dX12_firstOf_16 : decode cX12_firstOf 16 = .ok (.aload_n 0, 1) := by decide +kernel
theorem dX12_firstOf_17 : decode cX12_firstOf 17 = .ok (.getfield 9, 3) := by decide +kernel
theorem dX12_firstOf_20 : decode cX12_firstOf 20 = .ok (.iconst 2, 1) := by decide +kernel
theorem dX12_firstOf_21 : decode cX12_firstOf 21 = .ok (.iaload, 1) := by decide +kernel
theorem dX12_firstOf_22 : decode cX12_firstOf 22 = .ok (.iconst 1, 1) := by decide +kernel
theorem dX12_firstOf_23 : decode cX12_firstOf 23 = .ok (.isub, 1) := by decide +kernel
theorem dX12_firstOf_24 : decode cX12_firstOf 24 = .ok (.invokevirtual 412, 3) := by decide +kernel
theorem dX12_firstOf_27 : decode cX12_firstOf 27 = .ok (.aload_n 0, 1) := by decide +kernel
theorem dX12_firstOf_28 : decode cX12_firstOf 28 = .ok (.invokevirtual 409, 3) := by decide +kernel
theorem dX12_firstOf_31 : decode cX12_firstOf 31 = .ok (.if_icmp .ne 16, 3) := by decide +kernel
theorem dX12_firstOf_34 : decode cX12_firstOf 34 = .ok (.iload_n 2, 1) := by decide +kernel
theorem dX12_firstOf_35 : decode cX12_firstOf 35 = .ok (.invokestatic 237, 3) := by decide +kernel
theorem dX12_firstOf_38 : decode cX12_firstOf 38 = .ok (.iload_n 1, 1) := by decide +kernel
theorem dX12_firstOf_39 : decode cX12_firstOf 39 = .ok (.invokestatic 237, 3) := by decide +kernel
theorem dX12_firstOf_42 : decode cX12_firstOf 42 = .ok (.if_icmp .gt 5, 3) := by decide +kernel
theorem dX12_firstOf_45 : decode cX12_firstOf 45 = .ok (.iload_n 2, 1) := by decide +kernel
theorem dX12_firstOf_46 : decode cX12_firstOf 46 = .ok (.istore_n 1, 1) := by decide +kernel
theorem dX12_firstOf_47 : decode cX12_firstOf 47 = .ok (.iinc 2 (-1), 3) := by decide +kernel
theorem dX12_firstOf_50 : decode cX12_firstOf 50 = .ok (.goto (-40), 3) := by decide +kernel
theorem dX12_firstOf_53 : decode cX12_firstOf 53 = .ok (.iload_n 1, 1) := by decide +kernel
theorem dX12_firstOf_54 : decode cX12_firstOf 54 = .ok (.ireturn, 1) := by decide +kernel
theorem dX12_heard_0 : decode cX12_heard 0 = .ok (.aload_n 0, 1) := by decide +kernel
theorem dX12_heard_1 : decode cX12_heard 1 = .ok (.invokevirtual 77, 3) := by decide +kernel
theorem dX12_heard_4 : decode cX12_heard 4 = .ok (.ifCond .eq 30, 3) := by decide +kernel
theorem dX12_heard_7 : decode cX12_heard 7 = .ok (.iload_n 1, 1) := by decide +kernel
theorem dX12_heard_8 : decode cX12_heard 8 = .ok (.i2l, 1) := by decide +kernel
theorem dX12_heard_9 : decode cX12_heard 9 = .ok (.lconst 0, 1) := by decide +kernel
theorem dX12_heard_10 : decode cX12_heard 10 = .ok (.aload_n 0, 1) := by decide +kernel
theorem dX12_heard_11 : decode cX12_heard 11 = .ok (.invokevirtual 409, 3) := by decide +kernel
theorem dX12_heard_14 : decode cX12_heard 14 = .ok (.i2l, 1) := by decide +kernel
theorem dX12_heard_15 : decode cX12_heard 15 = .ok (.invokestatic 67, 3) := by decide +kernel
theorem dX12_heard_18 : decode cX12_heard 18 = .ok (.ifCond .eq 16, 3) := by decide +kernel
theorem dX12_heard_21 : decode cX12_heard 21 = .ok (.iload_n 2, 1) := by decide +kernel
theorem dX12_heard_22 : decode cX12_heard 22 = .ok (.ifCond .lt 12, 3) := by decide +kernel
theorem dX12_heard_25 : decode cX12_heard 25 = .ok (.aload_n 0, 1) := by decide +kernel
theorem dX12_heard_26 : decode cX12_heard 26 = .ok (.iload_n 1, 1) := by decide +kernel
theorem dX12_heard_27 : decode cX12_heard 27 = .ok (.iload_n 2, 1) := by decide +kernel
theorem dX12_heard_28 : decode cX12_heard 28 = .ok (.invokevirtual 412, 3) := by decide +kernel
theorem dX12_heard_31 : decode cX12_heard 31 = .ok (.goto 5, 3) := by decide +kernel
theorem dX12_heard_34 : decode cX12_heard 34 = .ok (.bipush (-2), 2) := by decide +kernel
theorem dX12_heard_36 : decode cX12_heard 36 = .ok (.ireturn, 1) := by decide +kernel
theorem dX12_heardBy_0 : decode cX12_heardBy 0 = .ok (.iload_n 1, 1) := by decide +kernel
theorem dX12_heardBy_1 : decode cX12_heardBy 1 = .ok (.istore_n 3, 1) := by decide +kernel
theorem dX12_heardBy_2 : decode cX12_heardBy 2 = .ok (.iconst 0, 1) := by decide +kernel
theorem dX12_heardBy_3 : decode cX12_heardBy 3 = .ok (.istore 4, 2) := by decide +kernel
theorem dX12_heardBy_5 : decode cX12_heardBy 5 = .ok (.iload 4, 2) := by decide +kernel
theorem dX12_heardBy_7 : decode cX12_heardBy 7 = .ok (.iload_n 2, 1) := by decide +kernel
theorem dX12_heardBy_8 : decode cX12_heardBy 8 = .ok (.if_icmp .ge 70, 3) := by decide +kernel
theorem dX12_heardBy_11 : decode cX12_heardBy 11 = .ok (.iload 4, 2) := by decide +kernel
theorem dX12_heardBy_13 : decode cX12_heardBy 13 = .ok (.iconst 4, 1) := by decide +kernel
theorem dX12_heardBy_14 : decode cX12_heardBy 14 = .ok (.if_icmp .ge 64, 3) := by decide +kernel
theorem dX12_heardBy_17 : decode cX12_heardBy 17 = .ok (.iload_n 3, 1) := by decide +kernel
theorem dX12_heardBy_18 : decode cX12_heardBy 18 = .ok (.istore 5, 2) := by decide +kernel
theorem dX12_heardBy_20 : decode cX12_heardBy 20 = .ok (.iconst 0, 1) := by decide +kernel
theorem dX12_heardBy_21 : decode cX12_heardBy 21 = .ok (.istore 6, 2) := by decide +kernel
theorem dX12_heardBy_23 : decode cX12_heardBy 23 = .ok (.iload 6, 2) := by decide +kernel
theorem dX12_heardBy_25 : decode cX12_heardBy 25 = .ok (.aload_n 0, 1) := by decide +kernel
theorem dX12_heardBy_26 : decode cX12_heardBy 26 = .ok (.getfield 9, 3) := by decide +kernel
theorem dX12_heardBy_29 : decode cX12_heardBy 29 = .ok (.iconst 5, 1) := by decide +kernel
theorem dX12_heardBy_30 : decode cX12_heardBy 30 = .ok (.iaload, 1) := by decide +kernel
theorem dX12_heardBy_31 : decode cX12_heardBy 31 = .ok (.if_icmp .ge 38, 3) := by decide +kernel
theorem dX12_heardBy_34 : decode cX12_heardBy 34 = .ok (.iload 5, 2) := by decide +kernel
theorem dX12_heardBy_36 : decode cX12_heardBy 36 = .ok (.iload_n 3, 1) := by decide +kernel
theorem dX12_heardBy_37 : decode cX12_heardBy 37 = .ok (.iload 6, 2) := by decide +kernel
theorem dX12_heardBy_39 : decode cX12_heardBy 39 = .ok (.invokestatic 89, 3) := by decide +kernel
theorem dX12_heardBy_42 : decode cX12_heardBy 42 = .ok (.iconst 1, 1) := by decide +kernel
theorem dX12_heardBy_43 : decode cX12_heardBy 43 = .ok (.if_icmp .ne 16, 3) := by decide +kernel
theorem dX12_heardBy_46 : decode cX12_heardBy 46 = .ok (.aload_n 0, 1) := by decide +kernel
theorem dX12_heardBy_47 : decode cX12_heardBy 47 = .ok (.getfield 9, 3) := by decide +kernel
theorem dX12_heardBy_50 : decode cX12_heardBy 50 = .ok (.bipush 101, 2) := by decide +kernel
theorem dX12_heardBy_52 : decode cX12_heardBy 52 = .ok (.iload 6, 2) := by decide +kernel
theorem dX12_heardBy_54 : decode cX12_heardBy 54 = .ok (.iadd, 1) := by decide +kernel
theorem dX12_heardBy_55 : decode cX12_heardBy 55 = .ok (.iaload, 1) := by decide +kernel
theorem dX12_heardBy_56 : decode cX12_heardBy 56 = .ok (.goto 4, 3) := by decide +kernel
theorem dX12_heardBy_59 : decode cX12_heardBy 59 = .ok (.iconst 0, 1) := by decide +kernel
theorem dX12_heardBy_60 : decode cX12_heardBy 60 = .ok (.ior, 1) := by decide +kernel
theorem dX12_heardBy_61 : decode cX12_heardBy 61 = .ok (.istore 5, 2) := by decide +kernel
theorem dX12_heardBy_63 : decode cX12_heardBy 63 = .ok (.iinc 6 1, 3) := by decide +kernel
theorem dX12_heardBy_66 : decode cX12_heardBy 66 = .ok (.goto (-43), 3) := by decide +kernel
theorem dX12_heardBy_69 : decode cX12_heardBy 69 = .ok (.iload 5, 2) := by decide +kernel
theorem dX12_heardBy_71 : decode cX12_heardBy 71 = .ok (.istore_n 3, 1) := by decide +kernel
theorem dX12_heardBy_72 : decode cX12_heardBy 72 = .ok (.iinc 4 1, 3) := by decide +kernel
theorem dX12_heardBy_75 : decode cX12_heardBy 75 = .ok (.goto (-70), 3) := by decide +kernel
theorem dX12_heardBy_78 : decode cX12_heardBy 78 = .ok (.iload_n 3, 1) := by decide +kernel
theorem dX12_heardBy_79 : decode cX12_heardBy 79 = .ok (.ireturn, 1) := by decide +kernel
theorem dX12_joined_0 : decode cX12_joined 0 = .ok (.aload_n 0, 1) := by decide +kernel
theorem dX12_joined_1 : decode cX12_joined 1 = .ok (.iload_n 1, 1) := by decide +kernel
theorem dX12_joined_2 : decode cX12_joined 2 = .ok (.invokevirtual 400, 3) := by decide +kernel
theorem dX12_joined_5 : decode cX12_joined 5 = .ok (.ifCond .eq 15, 3) := by decide +kernel
theorem dX12_joined_8 : decode cX12_joined 8 = .ok (.aload_n 0, 1) := by decide +kernel
theorem dX12_joined_9 : decode cX12_joined 9 = .ok (.aload_n 0, 1) := by decide +kernel
theorem dX12_joined_10 : decode cX12_joined 10 = .ok (.iload_n 1, 1) := by decide +kernel
theorem dX12_joined_11 : decode cX12_joined 11 = .ok (.invokevirtual 403, 3) := by decide +kernel
theorem dX12_joined_14 : decode cX12_joined 14 = .ok (.invokevirtual 406, 3) := by decide +kernel
theorem dX12_joined_17 : decode cX12_joined 17 = .ok (.goto 5, 3) := by decide +kernel
theorem dX12_joined_20 : decode cX12_joined 20 = .ok (.bipush (-2), 2) := by decide +kernel
theorem dX12_joined_22 : decode cX12_joined 22 = .ok (.ireturn, 1) := by decide +kernel
theorem dX12_joinedBy_0 : decode cX12_joinedBy 0 = .ok (.iconst 1, 1) := by decide +kernel
theorem dX12_joinedBy_1 : decode cX12_joinedBy 1 = .ok (.istore_n 2, 1) := by decide +kernel
theorem dX12_joinedBy_2 : decode cX12_joinedBy 2 = .ok (.iconst 0, 1) := by decide +kernel
theorem dX12_joinedBy_3 : decode cX12_joinedBy 3 = .ok (.istore_n 3, 1) := by decide +kernel
theorem dX12_joinedBy_4 : decode cX12_joinedBy 4 = .ok (.iload_n 3, 1) := by decide +kernel
theorem dX12_joinedBy_5 : decode cX12_joinedBy 5 = .ok (.aload_n 0, 1) := by decide +kernel
theorem dX12_joinedBy_6 : decode cX12_joinedBy 6 = .ok (.getfield 9, 3) := by decide +kernel
theorem dX12_joinedBy_9 : decode cX12_joinedBy 9 = .ok (.bipush 8, 2) := by decide +kernel
theorem dX12_joinedBy_11 : decode cX12_joinedBy 11 = .ok (.iaload, 1) := by decide +kernel
theorem dX12_joinedBy_12 : decode cX12_joinedBy 12 = .ok (.if_icmp .ge 13, 3) := by decide +kernel
theorem dX12_joinedBy_15 : decode cX12_joinedBy 15 = .ok (.iload_n 2, 1) := by decide +kernel
theorem dX12_joinedBy_16 : decode cX12_joinedBy 16 = .ok (.iload_n 1, 1) := by decide +kernel
theorem dX12_joinedBy_17 : decode cX12_joinedBy 17 = .ok (.imul, 1) := by decide +kernel
theorem dX12_joinedBy_18 : decode cX12_joinedBy 18 = .ok (.istore_n 2, 1) := by decide +kernel
theorem dX12_joinedBy_19 : decode cX12_joinedBy 19 = .ok (.iinc 3 1, 3) := by decide +kernel
theorem dX12_joinedBy_22 : decode cX12_joinedBy 22 = .ok (.goto (-18), 3) := by decide +kernel
theorem dX12_joinedBy_25 : decode cX12_joinedBy 25 = .ok (.ldc_w 321, 3) := by decide +kernel
theorem dX12_joinedBy_28 : decode cX12_joinedBy 28 = .ok (.istore_n 3, 1) := by decide +kernel
theorem dX12_joinedBy_29 : decode cX12_joinedBy 29 = .ok (.iconst 0, 1) := by decide +kernel
theorem dX12_joinedBy_30 : decode cX12_joinedBy 30 = .ok (.istore 4, 2) := by decide +kernel
theorem dX12_joinedBy_32 : decode cX12_joinedBy 32 = .ok (.iload 4, 2) := by decide +kernel
theorem dX12_joinedBy_34 : decode cX12_joinedBy 34 = .ok (.iload_n 2, 1) := by decide +kernel
theorem dX12_joinedBy_35 : decode cX12_joinedBy 35 = .ok (.if_icmp .ge 101, 3) := by decide +kernel
theorem dX12_joinedBy_38 : decode cX12_joinedBy 38 = .ok (.iload 4, 2) := by decide +kernel
theorem dX12_joinedBy_40 : decode cX12_joinedBy 40 = .ok (.istore 5, 2) := by decide +kernel
theorem dX12_joinedBy_42 : decode cX12_joinedBy 42 = .ok (.aload_n 0, 1) := by decide +kernel
theorem dX12_joinedBy_43 : decode cX12_joinedBy 43 = .ok (.getfield 9, 3) := by decide +kernel
theorem dX12_joinedBy_46 : decode cX12_joinedBy 46 = .ok (.bipush 8, 2) := by decide +kernel
theorem dX12_joinedBy_48 : decode cX12_joinedBy 48 = .ok (.iaload, 1) := by decide +kernel
theorem dX12_joinedBy_49 : decode cX12_joinedBy 49 = .ok (.iconst 1, 1) := by decide +kernel
theorem dX12_joinedBy_50 : decode cX12_joinedBy 50 = .ok (.isub, 1) := by decide +kernel
theorem dX12_joinedBy_51 : decode cX12_joinedBy 51 = .ok (.istore 6, 2) := by decide +kernel
theorem dX12_joinedBy_53 : decode cX12_joinedBy 53 = .ok (.iload 6, 2) := by decide +kernel
theorem dX12_joinedBy_55 : decode cX12_joinedBy 55 = .ok (.ifCond .lt 26, 3) := by decide +kernel
theorem dX12_joinedBy_58 : decode cX12_joinedBy 58 = .ok (.aload_n 0, 1) := by decide +kernel
theorem dX12_joinedBy_59 : decode cX12_joinedBy 59 = .ok (.getfield 43, 3) := by decide +kernel
theorem dX12_joinedBy_62 : decode cX12_joinedBy 62 = .ok (.iload 6, 2) := by decide +kernel
theorem dX12_joinedBy_64 : decode cX12_joinedBy 64 = .ok (.iload 5, 2) := by decide +kernel
theorem dX12_joinedBy_66 : decode cX12_joinedBy 66 = .ok (.iload_n 1, 1) := by decide +kernel
theorem dX12_joinedBy_67 : decode cX12_joinedBy 67 = .ok (.irem, 1) := by decide +kernel
theorem dX12_joinedBy_68 : decode cX12_joinedBy 68 = .ok (.iastore, 1) := by decide +kernel
theorem dX12_joinedBy_69 : decode cX12_joinedBy 69 = .ok (.iload 5, 2) := by decide +kernel
theorem dX12_joinedBy_71 : decode cX12_joinedBy 71 = .ok (.iload_n 1, 1) := by decide +kernel
theorem dX12_joinedBy_72 : decode cX12_joinedBy 72 = .ok (.idiv, 1) := by decide +kernel
theorem dX12_joinedBy_73 : decode cX12_joinedBy 73 = .ok (.istore 5, 2) := by decide +kernel
theorem dX12_joinedBy_75 : decode cX12_joinedBy 75 = .ok (.iinc 6 (-1), 3) := by decide +kernel
theorem dX12_joinedBy_78 : decode cX12_joinedBy 78 = .ok (.goto (-25), 3) := by decide +kernel
theorem dX12_joinedBy_81 : decode cX12_joinedBy 81 = .ok (.aload_n 0, 1) := by decide +kernel
theorem dX12_joinedBy_82 : decode cX12_joinedBy 82 = .ok (.iload_n 1, 1) := by decide +kernel
theorem dX12_joinedBy_83 : decode cX12_joinedBy 83 = .ok (.invokevirtual 395, 3) := by decide +kernel
theorem dX12_joinedBy_86 : decode cX12_joinedBy 86 = .ok (.istore 6, 2) := by decide +kernel
theorem dX12_joinedBy_88 : decode cX12_joinedBy 88 = .ok (.iload 6, 2) := by decide +kernel
theorem dX12_joinedBy_90 : decode cX12_joinedBy 90 = .ok (.iload_n 3, 1) := by decide +kernel
theorem dX12_joinedBy_91 : decode cX12_joinedBy 91 = .ok (.if_icmp .lt 6, 3) := by decide +kernel
theorem dX12_joinedBy_94 : decode cX12_joinedBy 94 = .ok (.goto 36, 3) := by decide +kernel
theorem dX12_joinedBy_97 : decode cX12_joinedBy 97 = .ok (.iload 6, 2) := by decide +kernel
theorem dX12_joinedBy_99 : decode cX12_joinedBy 99 = .ok (.istore_n 3, 1) := by decide +kernel
theorem dX12_joinedBy_100 : decode cX12_joinedBy 100 = .ok (.iconst 0, 1) := by decide +kernel
theorem dX12_joinedBy_101 : decode cX12_joinedBy 101 = .ok (.istore 7, 2) := by decide +kernel
theorem dX12_joinedBy_103 : decode cX12_joinedBy 103 = .ok (.iload 7, 2) := by decide +kernel
theorem dX12_joinedBy_105 : decode cX12_joinedBy 105 = .ok (.bipush 6, 2) := by decide +kernel
theorem dX12_joinedBy_107 : decode cX12_joinedBy 107 = .ok (.if_icmp .ge 23, 3) := by decide +kernel
theorem dX12_joinedBy_110 : decode cX12_joinedBy 110 = .ok (.aload_n 0, 1) := by decide +kernel
theorem dX12_joinedBy_111 : decode cX12_joinedBy 111 = .ok (.getfield 46, 3) := by decide +kernel
theorem dX12_joinedBy_114 : decode cX12_joinedBy 114 = .ok (.iload 7, 2) := by decide +kernel
theorem dX12_joinedBy_116 : decode cX12_joinedBy 116 = .ok (.aload_n 0, 1) := by decide +kernel
theorem dX12_joinedBy_117 : decode cX12_joinedBy 117 = .ok (.getfield 43, 3) := by decide +kernel
theorem dX12_joinedBy_120 : decode cX12_joinedBy 120 = .ok (.iload 7, 2) := by decide +kernel
theorem dX12_joinedBy_122 : decode cX12_joinedBy 122 = .ok (.iaload, 1) := by decide +kernel
theorem dX12_joinedBy_123 : decode cX12_joinedBy 123 = .ok (.iastore, 1) := by decide +kernel
theorem dX12_joinedBy_124 : decode cX12_joinedBy 124 = .ok (.iinc 7 1, 3) := by decide +kernel
theorem dX12_joinedBy_127 : decode cX12_joinedBy 127 = .ok (.goto (-24), 3) := by decide +kernel
theorem dX12_joinedBy_130 : decode cX12_joinedBy 130 = .ok (.iinc 4 1, 3) := by decide +kernel
theorem dX12_joinedBy_133 : decode cX12_joinedBy 133 = .ok (.goto (-101), 3) := by decide +kernel
theorem dX12_joinedBy_136 : decode cX12_joinedBy 136 = .ok (.iload_n 3, 1) := by decide +kernel
theorem dX12_joinedBy_137 : decode cX12_joinedBy 137 = .ok (.ireturn, 1) := by decide +kernel
theorem dX12_leakBy_0 : decode cX12_leakBy 0 = .ok (.lload_n 1, 1) := by decide +kernel
theorem dX12_leakBy_1 : decode cX12_leakBy 1 = .ok (.lstore_n 3, 1) := by decide +kernel
theorem dX12_leakBy_2 : decode cX12_leakBy 2 = .ok (.iconst 1, 1) := by decide +kernel
theorem dX12_leakBy_3 : decode cX12_leakBy 3 = .ok (.istore 5, 2) := by decide +kernel
theorem dX12_leakBy_5 : decode cX12_leakBy 5 = .ok (.iload 5, 2) := by decide +kernel
theorem dX12_leakBy_7 : decode cX12_leakBy 7 = .ok (.aload_n 0, 1) := by decide +kernel
theorem dX12_leakBy_8 : decode cX12_leakBy 8 = .ok (.getfield 9, 3) := by decide +kernel
theorem dX12_leakBy_11 : decode cX12_leakBy 11 = .ok (.iconst 2, 1) := by decide +kernel
theorem dX12_leakBy_12 : decode cX12_leakBy 12 = .ok (.iaload, 1) := by decide +kernel
theorem dX12_leakBy_13 : decode cX12_leakBy 13 = .ok (.if_icmp .ge 46, 3) := by decide +kernel
theorem dX12_leakBy_16 : decode cX12_leakBy 16 = .ok (.ldc2_w 428, 3) := by decide +kernel
theorem dX12_leakBy_19 : decode cX12_leakBy 19 = .ok (.lload_n 3, 1) := by decide +kernel
theorem dX12_leakBy_20 : decode cX12_leakBy 20 = .ok (.lmul, 1) := by decide +kernel
theorem dX12_leakBy_21 : decode cX12_leakBy 21 = .ok (.ldc2_w 430, 3) := by decide +kernel
theorem dX12_leakBy_24 : decode cX12_leakBy 24 = .ok (.ladd, 1) := by decide +kernel
theorem dX12_leakBy_25 : decode cX12_leakBy 25 = .ok (.ldc2_w 432, 3) := by decide +kernel
theorem dX12_leakBy_28 : decode cX12_leakBy 28 = .ok (.lrem, 1) := by decide +kernel
theorem dX12_leakBy_29 : decode cX12_leakBy 29 = .ok (.lstore_n 3, 1) := by decide +kernel
theorem dX12_leakBy_30 : decode cX12_leakBy 30 = .ok (.lload_n 3, 1) := by decide +kernel
theorem dX12_leakBy_31 : decode cX12_leakBy 31 = .ok (.ldc2_w 434, 3) := by decide +kernel
theorem dX12_leakBy_34 : decode cX12_leakBy 34 = .ok (.ldiv, 1) := by decide +kernel
theorem dX12_leakBy_35 : decode cX12_leakBy 35 = .ok (.ldc2_w 253, 3) := by decide +kernel
theorem dX12_leakBy_38 : decode cX12_leakBy 38 = .ok (.lrem, 1) := by decide +kernel
theorem dX12_leakBy_39 : decode cX12_leakBy 39 = .ok (.aload_n 0, 1) := by decide +kernel
theorem dX12_leakBy_40 : decode cX12_leakBy 40 = .ok (.getfield 9, 3) := by decide +kernel
theorem dX12_leakBy_43 : decode cX12_leakBy 43 = .ok (.iconst 4, 1) := by decide +kernel
theorem dX12_leakBy_44 : decode cX12_leakBy 44 = .ok (.iaload, 1) := by decide +kernel
theorem dX12_leakBy_45 : decode cX12_leakBy 45 = .ok (.i2l, 1) := by decide +kernel
theorem dX12_leakBy_46 : decode cX12_leakBy 46 = .ok (.lcmp, 1) := by decide +kernel
theorem dX12_leakBy_47 : decode cX12_leakBy 47 = .ok (.ifCond .ge 6, 3) := by decide +kernel
theorem dX12_leakBy_50 : decode cX12_leakBy 50 = .ok (.iload 5, 2) := by decide +kernel
theorem dX12_leakBy_52 : decode cX12_leakBy 52 = .ok (.ireturn, 1) := by decide +kernel
theorem dX12_leakBy_53 : decode cX12_leakBy 53 = .ok (.iinc 5 1, 3) := by decide +kernel
theorem dX12_leakBy_56 : decode cX12_leakBy 56 = .ok (.goto (-51), 3) := by decide +kernel
theorem dX12_leakBy_59 : decode cX12_leakBy 59 = .ok (.iconst (-1), 1) := by decide +kernel
theorem dX12_leakBy_60 : decode cX12_leakBy 60 = .ok (.ireturn, 1) := by decide +kernel
theorem dX12_leaks_0 : decode cX12_leaks 0 = .ok (.aload_n 0, 1) := by decide +kernel
theorem dX12_leaks_1 : decode cX12_leaks 1 = .ok (.invokevirtual 77, 3) := by decide +kernel
theorem dX12_leaks_4 : decode cX12_leaks 4 = .ok (.ifCond .eq 22, 3) := by decide +kernel
theorem dX12_leaks_7 : decode cX12_leaks 7 = .ok (.iload_n 1, 1) := by decide +kernel
theorem dX12_leaks_8 : decode cX12_leaks 8 = .ok (.invokestatic 438, 3) := by decide +kernel
theorem dX12_leaks_11 : decode cX12_leaks 11 = .ok (.ifCond .eq 15, 3) := by decide +kernel
theorem dX12_leaks_14 : decode cX12_leaks 14 = .ok (.iload_n 2, 1) := by decide +kernel
theorem dX12_leaks_15 : decode cX12_leaks 15 = .ok (.i2l, 1) := by decide +kernel
theorem dX12_leaks_16 : decode cX12_leaks 16 = .ok (.lconst 1, 1) := by decide +kernel
theorem dX12_leaks_17 : decode cX12_leaks 17 = .ok (.ldc2_w 426, 3) := by decide +kernel
theorem dX12_leaks_20 : decode cX12_leaks 20 = .ok (.invokestatic 67, 3) := by decide +kernel
theorem dX12_leaks_23 : decode cX12_leaks 23 = .ok (.ifCond .ne 6, 3) := by decide +kernel
theorem dX12_leaks_26 : decode cX12_leaks 26 = .ok (.bipush (-2), 2) := by decide +kernel
theorem dX12_leaks_28 : decode cX12_leaks 28 = .ok (.ireturn, 1) := by decide +kernel
theorem dX12_leaks_29 : decode cX12_leaks 29 = .ok (.iconst 0, 1) := by decide +kernel
theorem dX12_leaks_30 : decode cX12_leaks 30 = .ok (.istore_n 3, 1) := by decide +kernel
theorem dX12_leaks_31 : decode cX12_leaks 31 = .ok (.iconst 0, 1) := by decide +kernel
theorem dX12_leaks_32 : decode cX12_leaks 32 = .ok (.istore 4, 2) := by decide +kernel
theorem dX12_leaks_34 : decode cX12_leaks 34 = .ok (.iload 4, 2) := by decide +kernel
theorem dX12_leaks_36 : decode cX12_leaks 36 = .ok (.iload_n 2, 1) := by decide +kernel
theorem dX12_leaks_37 : decode cX12_leaks 37 = .ok (.if_icmp .ge 31, 3) := by decide +kernel
theorem dX12_leaks_40 : decode cX12_leaks 40 = .ok (.iload_n 3, 1) := by decide +kernel
theorem dX12_leaks_41 : decode cX12_leaks 41 = .ok (.aload_n 0, 1) := by decide +kernel
theorem dX12_leaks_42 : decode cX12_leaks 42 = .ok (.iload_n 1, 1) := by decide +kernel
theorem dX12_leaks_43 : decode cX12_leaks 43 = .ok (.i2l, 1) := by decide +kernel
theorem dX12_leaks_44 : decode cX12_leaks 44 = .ok (.iload 4, 2) := by decide +kernel
theorem dX12_leaks_46 : decode cX12_leaks 46 = .ok (.i2l, 1) := by decide +kernel
theorem dX12_leaks_47 : decode cX12_leaks 47 = .ok (.ladd, 1) := by decide +kernel
theorem dX12_leaks_48 : decode cX12_leaks 48 = .ok (.invokevirtual 441, 3) := by decide +kernel
theorem dX12_leaks_51 : decode cX12_leaks 51 = .ok (.iconst (-1), 1) := by decide +kernel
theorem dX12_leaks_52 : decode cX12_leaks 52 = .ok (.if_icmp .ne 7, 3) := by decide +kernel
theorem dX12_leaks_55 : decode cX12_leaks 55 = .ok (.iconst 0, 1) := by decide +kernel
theorem dX12_leaks_56 : decode cX12_leaks 56 = .ok (.goto 4, 3) := by decide +kernel
theorem dX12_leaks_59 : decode cX12_leaks 59 = .ok (.iconst 1, 1) := by decide +kernel
theorem dX12_leaks_60 : decode cX12_leaks 60 = .ok (.iadd, 1) := by decide +kernel
theorem dX12_leaks_61 : decode cX12_leaks 61 = .ok (.istore_n 3, 1) := by decide +kernel
theorem dX12_leaks_62 : decode cX12_leaks 62 = .ok (.iinc 4 1, 3) := by decide +kernel
theorem dX12_leaks_65 : decode cX12_leaks 65 = .ok (.goto (-31), 3) := by decide +kernel
theorem dX12_leaks_68 : decode cX12_leaks 68 = .ok (.iload_n 3, 1) := by decide +kernel
theorem dX12_leaks_69 : decode cX12_leaks 69 = .ok (.ireturn, 1) := by decide +kernel
theorem dX12_leftBy_0 : decode cX12_leftBy 0 = .ok (.iconst 0, 1) := by decide +kernel
theorem dX12_leftBy_1 : decode cX12_leftBy 1 = .ok (.istore_n 2, 1) := by decide +kernel
theorem dX12_leftBy_2 : decode cX12_leftBy 2 = .ok (.iconst 0, 1) := by decide +kernel
theorem dX12_leftBy_3 : decode cX12_leftBy 3 = .ok (.istore_n 3, 1) := by decide +kernel
theorem dX12_leftBy_4 : decode cX12_leftBy 4 = .ok (.iload_n 3, 1) := by decide +kernel
theorem dX12_leftBy_5 : decode cX12_leftBy 5 = .ok (.iload_n 1, 1) := by decide +kernel
theorem dX12_leftBy_6 : decode cX12_leftBy 6 = .ok (.if_icmp .ge 91, 3) := by decide +kernel
theorem dX12_leftBy_9 : decode cX12_leftBy 9 = .ok (.iconst 0, 1) := by decide +kernel
theorem dX12_leftBy_10 : decode cX12_leftBy 10 = .ok (.istore 4, 2) := by decide +kernel
theorem dX12_leftBy_12 : decode cX12_leftBy 12 = .ok (.iconst 0, 1) := by decide +kernel
theorem dX12_leftBy_13 : decode cX12_leftBy 13 = .ok (.istore 5, 2) := by decide +kernel
theorem dX12_leftBy_15 : decode cX12_leftBy 15 = .ok (.iload 5, 2) := by decide +kernel
theorem dX12_leftBy_17 : decode cX12_leftBy 17 = .ok (.aload_n 0, 1) := by decide +kernel
theorem dX12_leftBy_18 : decode cX12_leftBy 18 = .ok (.getfield 9, 3) := by decide +kernel
theorem dX12_leftBy_21 : decode cX12_leftBy 21 = .ok (.bipush 8, 2) := by decide +kernel
theorem dX12_leftBy_23 : decode cX12_leftBy 23 = .ok (.iaload, 1) := by decide +kernel
theorem dX12_leftBy_24 : decode cX12_leftBy 24 = .ok (.if_icmp .ge 39, 3) := by decide +kernel
theorem dX12_leftBy_27 : decode cX12_leftBy 27 = .ok (.iload 4, 2) := by decide +kernel
theorem dX12_leftBy_29 : decode cX12_leftBy 29 = .ok (.aload_n 0, 1) := by decide +kernel
theorem dX12_leftBy_30 : decode cX12_leftBy 30 = .ok (.getfield 43, 3) := by decide +kernel
theorem dX12_leftBy_33 : decode cX12_leftBy 33 = .ok (.iload 5, 2) := by decide +kernel
theorem dX12_leftBy_35 : decode cX12_leftBy 35 = .ok (.iaload, 1) := by decide +kernel
theorem dX12_leftBy_36 : decode cX12_leftBy 36 = .ok (.iload_n 3, 1) := by decide +kernel
theorem dX12_leftBy_37 : decode cX12_leftBy 37 = .ok (.if_icmp .ne 16, 3) := by decide +kernel
theorem dX12_leftBy_40 : decode cX12_leftBy 40 = .ok (.aload_n 0, 1) := by decide +kernel
theorem dX12_leftBy_41 : decode cX12_leftBy 41 = .ok (.getfield 9, 3) := by decide +kernel
theorem dX12_leftBy_44 : decode cX12_leftBy 44 = .ok (.bipush 95, 2) := by decide +kernel
theorem dX12_leftBy_46 : decode cX12_leftBy 46 = .ok (.iload 5, 2) := by decide +kernel
theorem dX12_leftBy_48 : decode cX12_leftBy 48 = .ok (.iadd, 1) := by decide +kernel
theorem dX12_leftBy_49 : decode cX12_leftBy 49 = .ok (.iaload, 1) := by decide +kernel
theorem dX12_leftBy_50 : decode cX12_leftBy 50 = .ok (.goto 4, 3) := by decide +kernel
theorem dX12_leftBy_53 : decode cX12_leftBy 53 = .ok (.iconst 0, 1) := by decide +kernel
theorem dX12_leftBy_54 : decode cX12_leftBy 54 = .ok (.isub, 1) := by decide +kernel
theorem dX12_leftBy_55 : decode cX12_leftBy 55 = .ok (.istore 4, 2) := by decide +kernel
theorem dX12_leftBy_57 : decode cX12_leftBy 57 = .ok (.iinc 5 1, 3) := by decide +kernel
theorem dX12_leftBy_60 : decode cX12_leftBy 60 = .ok (.goto (-45), 3) := by decide +kernel
theorem dX12_leftBy_63 : decode cX12_leftBy 63 = .ok (.iload_n 2, 1) := by decide +kernel
theorem dX12_leftBy_64 : decode cX12_leftBy 64 = .ok (.iload 4, 2) := by decide +kernel
theorem dX12_leftBy_66 : decode cX12_leftBy 66 = .ok (.ifCond .le 22, 3) := by decide +kernel
theorem dX12_leftBy_69 : decode cX12_leftBy 69 = .ok (.aload_n 0, 1) := by decide +kernel
theorem dX12_leftBy_70 : decode cX12_leftBy 70 = .ok (.iload 4, 2) := by decide +kernel
theorem dX12_leftBy_72 : decode cX12_leftBy 72 = .ok (.iload 4, 2) := by decide +kernel
theorem dX12_leftBy_74 : decode cX12_leftBy 74 = .ok (.imul, 1) := by decide +kernel
theorem dX12_leftBy_75 : decode cX12_leftBy 75 = .ok (.iload_n 3, 1) := by decide +kernel
theorem dX12_leftBy_76 : decode cX12_leftBy 76 = .ok (.aload_n 0, 1) := by decide +kernel
theorem dX12_leftBy_77 : decode cX12_leftBy 77 = .ok (.getfield 9, 3) := by decide +kernel
theorem dX12_leftBy_80 : decode cX12_leftBy 80 = .ok (.iconst 2, 1) := by decide +kernel
theorem dX12_leftBy_81 : decode cX12_leftBy 81 = .ok (.iaload, 1) := by decide +kernel
theorem dX12_leftBy_82 : decode cX12_leftBy 82 = .ok (.invokevirtual 306, 3) := by decide +kernel
theorem dX12_leftBy_85 : decode cX12_leftBy 85 = .ok (.goto 4, 3) := by decide +kernel
theorem dX12_leftBy_88 : decode cX12_leftBy 88 = .ok (.iconst 0, 1) := by decide +kernel
theorem dX12_leftBy_89 : decode cX12_leftBy 89 = .ok (.iadd, 1) := by decide +kernel
theorem dX12_leftBy_90 : decode cX12_leftBy 90 = .ok (.istore_n 2, 1) := by decide +kernel
theorem dX12_leftBy_91 : decode cX12_leftBy 91 = .ok (.iinc 3 1, 3) := by decide +kernel
theorem dX12_leftBy_94 : decode cX12_leftBy 94 = .ok (.goto (-90), 3) := by decide +kernel
theorem dX12_leftBy_97 : decode cX12_leftBy 97 = .ok (.iload_n 2, 1) := by decide +kernel
theorem dX12_leftBy_98 : decode cX12_leftBy 98 = .ok (.ireturn, 1) := by decide +kernel
theorem dX12_letter_0 : decode cX12_letter 0 = .ok (.aload_n 0, 1) := by decide +kernel
theorem dX12_letter_1 : decode cX12_letter 1 = .ok (.iload_n 1, 1) := by decide +kernel
theorem dX12_letter_2 : decode cX12_letter 2 = .ok (.invokevirtual 400, 3) := by decide +kernel
theorem dX12_letter_5 : decode cX12_letter 5 = .ok (.ifCond .eq 22, 3) := by decide +kernel
theorem dX12_letter_8 : decode cX12_letter 8 = .ok (.iload_n 2, 1) := by decide +kernel
theorem dX12_letter_9 : decode cX12_letter 9 = .ok (.i2l, 1) := by decide +kernel
theorem dX12_letter_10 : decode cX12_letter 10 = .ok (.lconst 0, 1) := by decide +kernel
theorem dX12_letter_11 : decode cX12_letter 11 = .ok (.aload_n 0, 1) := by decide +kernel
theorem dX12_letter_12 : decode cX12_letter 12 = .ok (.getfield 9, 3) := by decide +kernel
theorem dX12_letter_15 : decode cX12_letter 15 = .ok (.bipush 8, 2) := by decide +kernel
theorem dX12_letter_17 : decode cX12_letter 17 = .ok (.iaload, 1) := by decide +kernel
theorem dX12_letter_18 : decode cX12_letter 18 = .ok (.iconst 1, 1) := by decide +kernel
theorem dX12_letter_19 : decode cX12_letter 19 = .ok (.isub, 1) := by decide +kernel
theorem dX12_letter_20 : decode cX12_letter 20 = .ok (.i2l, 1) := by decide +kernel
theorem dX12_letter_21 : decode cX12_letter 21 = .ok (.invokestatic 67, 3) := by decide +kernel
theorem dX12_letter_24 : decode cX12_letter 24 = .ok (.ifCond .ne 6, 3) := by decide +kernel
theorem dX12_letter_27 : decode cX12_letter 27 = .ok (.bipush (-2), 2) := by decide +kernel
theorem dX12_letter_29 : decode cX12_letter 29 = .ok (.ireturn, 1) := by decide +kernel
theorem dX12_letter_30 : decode cX12_letter 30 = .ok (.aload_n 0, 1) := by decide +kernel
theorem dX12_letter_31 : decode cX12_letter 31 = .ok (.aload_n 0, 1) := by decide +kernel
theorem dX12_letter_32 : decode cX12_letter 32 = .ok (.iload_n 1, 1) := by decide +kernel
theorem dX12_letter_33 : decode cX12_letter 33 = .ok (.invokevirtual 403, 3) := by decide +kernel
theorem dX12_letter_36 : decode cX12_letter 36 = .ok (.invokevirtual 406, 3) := by decide +kernel
theorem dX12_letter_39 : decode cX12_letter 39 = .ok (.pop, 1) := by decide +kernel
theorem dX12_letter_40 : decode cX12_letter 40 = .ok (.aload_n 0, 1) := by decide +kernel
theorem dX12_letter_41 : decode cX12_letter 41 = .ok (.getfield 46, 3) := by decide +kernel
theorem dX12_letter_44 : decode cX12_letter 44 = .ok (.iload_n 2, 1) := by decide +kernel
theorem dX12_letter_45 : decode cX12_letter 45 = .ok (.iaload, 1) := by decide +kernel
theorem dX12_letter_46 : decode cX12_letter 46 = .ok (.ireturn, 1) := by decide +kernel
theorem dX12_lettersOf_0 : decode cX12_lettersOf 0 = .ok (.iload_n 1, 1) := by decide +kernel
theorem dX12_lettersOf_1 : decode cX12_lettersOf 1 = .ok (.aload_n 0, 1) := by decide +kernel
theorem dX12_lettersOf_2 : decode cX12_lettersOf 2 = .ok (.getfield 9, 3) := by decide +kernel
theorem dX12_lettersOf_5 : decode cX12_lettersOf 5 = .ok (.iconst 2, 1) := by decide +kernel
theorem dX12_lettersOf_6 : decode cX12_lettersOf 6 = .ok (.iaload, 1) := by decide +kernel
theorem dX12_lettersOf_7 : decode cX12_lettersOf 7 = .ok (.invokestatic 127, 3) := by decide +kernel
theorem dX12_lettersOf_10 : decode cX12_lettersOf 10 = .ok (.ireturn, 1) := by decide +kernel
theorem dX12_whom_0 : decode cX12_whom 0 = .ok (.aload_n 0, 1) := by decide +kernel
theorem dX12_whom_1 : decode cX12_whom 1 = .ok (.invokevirtual 77, 3) := by decide +kernel
theorem dX12_whom_4 : decode cX12_whom 4 = .ok (.ifCond .eq 13, 3) := by decide +kernel
theorem dX12_whom_7 : decode cX12_whom 7 = .ok (.aload_n 0, 1) := by decide +kernel
theorem dX12_whom_8 : decode cX12_whom 8 = .ok (.invokevirtual 415, 3) := by decide +kernel
theorem dX12_whom_11 : decode cX12_whom 11 = .ok (.invokestatic 237, 3) := by decide +kernel
theorem dX12_whom_14 : decode cX12_whom 14 = .ok (.goto 5, 3) := by decide +kernel
theorem dX12_whom_17 : decode cX12_whom 17 = .ok (.bipush (-2), 2) := by decide +kernel
theorem dX12_whom_19 : decode cX12_whom 19 = .ok (.ireturn, 1) := by decide +kernel
