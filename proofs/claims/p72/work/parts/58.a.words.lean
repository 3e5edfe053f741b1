theorem b_940 : Cond.methodLink RX12 299 yX12_asksWeek ∈ BIG := bi (tin_7 _ (List.mem_of_getElem? (i := 212) rfl)) rfl
theorem b_941 : Cond.methodLink RX12 303 yX12_toldAt ∈ BIG := bi (tin_7 _ (List.mem_of_getElem? (i := 224) rfl)) rfl
theorem b_942 : Cond.methodLink RX12 306 yX12_leftOf ∈ BIG := bi (tin_7 _ (List.mem_of_getElem? (i := 237) rfl)) rfl
theorem b_943 : Cond.methodLink RX12 309 yX12_weekOf ∈ BIG := bi (tin_7 _ (List.mem_of_getElem? (i := 232) rfl)) rfl
theorem b_944 : Cond.methodLink RX12 312 yX12_shameOf ∈ BIG := bi (tin_8 _ (List.mem_of_getElem? (i := 18) rfl)) rfl
theorem b_945 : Cond.methodLink RX12 315 yX12_reallySet ∈ BIG := bi (tin_8 _ (List.mem_of_getElem? (i := 26) rfl)) rfl
theorem b_946 : Cond.code yX12_asksWeek cX12_asksWeek 4 (some .int) ∈ BIG := bi (tin_7 _ (List.mem_of_getElem? (i := 215) rfl)) rfl
theorem b_947 : Cond.instanceMethod yX12_asksWeek ∈ BIG := bi (tin_7 _ (List.mem_of_getElem? (i := 214) rfl)) rfl
theorem b_948 : Cond.selects RX12 yX12_asksWeek yX12_asksWeek ∈ BIG := bi (sin_9 _ (List.mem_map.mpr ⟨(yX12_asksWeek, 29), List.mem_of_getElem? (i := 10) rfl, rfl⟩)) rfl
theorem b_949 : Cond.code yX12_leftOf cX12_leftOf 4 (some .int) ∈ BIG := bi (tin_8 _ (List.mem_of_getElem? (i := 0) rfl)) rfl
theorem b_950 : Cond.instanceMethod yX12_leftOf ∈ BIG := bi (tin_7 _ (List.mem_of_getElem? (i := 239) rfl)) rfl
theorem b_951 : Cond.selects RX12 yX12_leftOf yX12_leftOf ∈ BIG := bi (sin_9 _ (List.mem_map.mpr ⟨(yX12_leftOf, 29), List.mem_of_getElem? (i := 14) rfl, rfl⟩)) rfl
theorem b_952 : Cond.code yX12_reallySet cX12_reallySet 1 (some .int) ∈ BIG := bi (tin_8 _ (List.mem_of_getElem? (i := 29) rfl)) rfl
theorem b_953 : Cond.instanceMethod yX12_reallySet ∈ BIG := bi (tin_8 _ (List.mem_of_getElem? (i := 28) rfl)) rfl
theorem b_954 : Cond.selects RX12 yX12_reallySet yX12_reallySet ∈ BIG := bi (sin_10 _ (List.mem_map.mpr ⟨(yX12_reallySet, 29), List.mem_of_getElem? (i := 0) rfl, rfl⟩)) rfl
theorem b_955 : Cond.code yX12_shameOf cX12_shameOf 2 (some .int) ∈ BIG := bi (tin_8 _ (List.mem_of_getElem? (i := 21) rfl)) rfl
theorem b_956 : Cond.instanceMethod yX12_shameOf ∈ BIG := bi (tin_8 _ (List.mem_of_getElem? (i := 20) rfl)) rfl
theorem b_957 : Cond.selects RX12 yX12_shameOf yX12_shameOf ∈ BIG := bi (sin_9 _ (List.mem_map.mpr ⟨(yX12_shameOf, 29), List.mem_of_getElem? (i := 15) rfl, rfl⟩)) rfl
theorem b_958 : Cond.code yX12_toldAt cX12_toldAt 3 (some .int) ∈ BIG := bi (tin_7 _ (List.mem_of_getElem? (i := 227) rfl)) rfl
theorem b_959 : Cond.instanceMethod yX12_toldAt ∈ BIG := bi (tin_7 _ (List.mem_of_getElem? (i := 226) rfl)) rfl
theorem b_960 : Cond.selects RX12 yX12_toldAt yX12_toldAt ∈ BIG := bi (sin_9 _ (List.mem_map.mpr ⟨(yX12_toldAt, 29), List.mem_of_getElem? (i := 12) rfl, rfl⟩)) rfl
theorem b_961 : Cond.code yX12_weekOf cX12_weekOf 8 (some .int) ∈ BIG := bi (tin_7 _ (List.mem_of_getElem? (i := 235) rfl)) rfl
theorem b_962 : Cond.instanceMethod yX12_weekOf ∈ BIG := bi (tin_7 _ (List.mem_of_getElem? (i := 234) rfl)) rfl
theorem b_963 : Cond.selects RX12 yX12_weekOf yX12_weekOf ∈ BIG := bi (sin_9 _ (List.mem_map.mpr ⟨(yX12_weekOf, 29), List.mem_of_getElem? (i := 13) rfl, rfl⟩)) rfl
theorem m_yX12_asksWeek : MV yX12_asksWeek cX12_asksWeek 4 (some .int) 2 := ⟨b_946, b_947, b_948, b_810, by decide +kernel⟩
theorem m_yX12_leftOf : MV yX12_leftOf cX12_leftOf 4 (some .int) 3 := ⟨b_949, b_950, b_951, b_810, by decide +kernel⟩
theorem m_yX12_reallySet : MV yX12_reallySet cX12_reallySet 1 (some .int) 0 := ⟨b_952, b_953, b_954, b_810, by decide +kernel⟩
theorem m_yX12_shameOf : MV yX12_shameOf cX12_shameOf 2 (some .int) 1 := ⟨b_955, b_956, b_957, b_810, by decide +kernel⟩
theorem m_yX12_toldAt : MV yX12_toldAt cX12_toldAt 3 (some .int) 2 := ⟨b_958, b_959, b_960, b_810, by decide +kernel⟩
theorem m_yX12_weekOf : MV yX12_weekOf cX12_weekOf 8 (some .int) 3 := ⟨b_961, b_962, b_963, b_810, by decide +kernel⟩
theorem dX12_believes_0 : decode cX12_believes 0 = .ok (.aload_n 0, 1) := by decide +kernel
theorem dX12_believes_1 : decode cX12_believes 1 = .ok (.iload_n 1, 1) := by decide +kernel
theorem dX12_believes_2 : decode cX12_believes 2 = .ok (.iconst 1, 1) := by decide +kernel
theorem dX12_believes_3 : decode cX12_believes 3 = .ok (.invokevirtual 299, 3) := by decide +kernel
theorem dX12_believes_6 : decode cX12_believes 6 = .ok (.istore_n 2, 1) := by decide +kernel
theorem dX12_believes_7 : decode cX12_believes 7 = .ok (.iload_n 2, 1) := by decide +kernel
theorem dX12_believes_8 : decode cX12_believes 8 = .ok (.ifCond .ge 5, 3) := by decide +kernel
theorem dX12_believes_11 : decode cX12_believes 11 = .ok (.iload_n 2, 1) := by decide +kernel
theorem dX12_believes_12 : decode cX12_believes 12 = .ok (.ireturn, 1) := by decide +kernel
theorem dX12_believes_13 : decode cX12_believes 13 = .ok (.aload_n 0, 1) := by decide +kernel
theorem dX12_believes_14 : decode cX12_believes 14 = .ok (.invokevirtual 81, 3) := by decide +kernel
theorem dX12_believes_17 : decode cX12_believes 17 = .ok (.istore_n 3, 1) := by decide +kernel
theorem dX12_believes_18 : decode cX12_believes 18 = .ok (.iconst 0, 1) := by decide +kernel
theorem dX12_believes_19 : decode cX12_believes 19 = .ok (.istore 4, 2) := by decide +kernel
theorem dX12_believes_21 : decode cX12_believes 21 = .ok (.iload 4, 2) := by decide +kernel
theorem dX12_believes_23 : decode cX12_believes 23 = .ok (.aload_n 0, 1) := by decide +kernel
theorem dX12_believes_24 : decode cX12_believes 24 = .ok (.getfield 49, 3) := by decide +kernel
theorem dX12_believes_27 : decode cX12_believes 27 = .ok (.iload_n 1, 1) := by decide +kernel
theorem dX12_believes_28 : decode cX12_believes 28 = .ok (.iaload, 1) := by decide +kernel
theorem dX12_believes_29 : decode cX12_believes 29 = .ok (.if_icmp .ge 22, 3) := by decide +kernel
theorem dX12_believes_32 : decode cX12_believes 32 = .ok (.aload_n 0, 1) := by decide +kernel
theorem dX12_believes_33 : decode cX12_believes 33 = .ok (.iload_n 3, 1) := by decide +kernel
theorem dX12_believes_34 : decode cX12_believes 34 = .ok (.aload_n 0, 1) := by decide +kernel
theorem dX12_believes_35 : decode cX12_believes 35 = .ok (.iload_n 1, 1) := by decide +kernel
theorem dX12_believes_36 : decode cX12_believes 36 = .ok (.iload 4, 2) := by decide +kernel
theorem dX12_believes_38 : decode cX12_believes 38 = .ok (.invokevirtual 303, 3) := by decide +kernel
theorem dX12_believes_41 : decode cX12_believes 41 = .ok (.invokevirtual 243, 3) := by decide +kernel
theorem dX12_believes_44 : decode cX12_believes 44 = .ok (.istore_n 3, 1) := by decide +kernel
theorem dX12_believes_45 : decode cX12_believes 45 = .ok (.iinc 4 1, 3) := by decide +kernel
theorem dX12_believes_48 : decode cX12_believes 48 = .ok (.goto (-27), 3) := by decide +kernel
theorem dX12_believes_51 : decode cX12_believes 51 = .ok (.iload_n 3, 1) := by decide +kernel
theorem dX12_believes_52 : decode cX12_believes 52 = .ok (.ireturn, 1) := by decide +kernel
theorem dX12_hope_0 : decode cX12_hope 0 = .ok (.aload_n 0, 1) := by decide +kernel
theorem dX12_hope_1 : decode cX12_hope 1 = .ok (.iload_n 1, 1) := by decide +kernel
theorem dX12_hope_2 : decode cX12_hope 2 = .ok (.aload_n 0, 1) := by decide +kernel
theorem dX12_hope_3 : decode cX12_hope 3 = .ok (.iload_n 2, 1) := by decide +kernel
theorem dX12_hope_4 : decode cX12_hope 4 = .ok (.invokevirtual 258, 3) := by decide +kernel
theorem dX12_hope_7 : decode cX12_hope 7 = .ok (.ifCond .eq 26, 3) := by decide +kernel
theorem dX12_hope_10 : decode cX12_hope 10 = .ok (.aload_n 0, 1) := by decide +kernel
theorem dX12_hope_11 : decode cX12_hope 11 = .ok (.iload_n 3, 1) := by decide +kernel
theorem dX12_hope_12 : decode cX12_hope 12 = .ok (.invokevirtual 255, 3) := by decide +kernel
theorem dX12_hope_15 : decode cX12_hope 15 = .ok (.ifCond .eq 18, 3) := by decide +kernel
theorem dX12_hope_18 : decode cX12_hope 18 = .ok (.iload 4, 2) := by decide +kernel
theorem dX12_hope_20 : decode cX12_hope 20 = .ok (.i2l, 1) := by decide +kernel
theorem dX12_hope_21 : decode cX12_hope 21 = .ok (.lconst 0, 1) := by decide +kernel
theorem dX12_hope_22 : decode cX12_hope 22 = .ok (.lconst 1, 1) := by decide +kernel
theorem dX12_hope_23 : decode cX12_hope 23 = .ok (.invokestatic 67, 3) := by decide +kernel
theorem dX12_hope_26 : decode cX12_hope 26 = .ok (.ifCond .eq 7, 3) := by decide +kernel
theorem dX12_hope_29 : decode cX12_hope 29 = .ok (.iconst 1, 1) := by decide +kernel
theorem dX12_hope_30 : decode cX12_hope 30 = .ok (.goto 4, 3) := by decide +kernel
theorem dX12_hope_33 : decode cX12_hope 33 = .ok (.iconst 0, 1) := by decide +kernel
theorem dX12_hope_34 : decode cX12_hope 34 = .ok (.invokevirtual 299, 3) := by decide +kernel
theorem dX12_hope_37 : decode cX12_hope 37 = .ok (.istore 5, 2) := by decide +kernel
theorem dX12_hope_39 : decode cX12_hope 39 = .ok (.iload 5, 2) := by decide +kernel
theorem dX12_hope_41 : decode cX12_hope 41 = .ok (.ifCond .ge 6, 3) := by decide +kernel
theorem dX12_hope_44 : decode cX12_hope 44 = .ok (.iload 5, 2) := by decide +kernel
theorem dX12_hope_46 : decode cX12_hope 46 = .ok (.ireturn, 1) := by decide +kernel
theorem dX12_hope_47 : decode cX12_hope 47 = .ok (.aload_n 0, 1) := by decide +kernel
theorem dX12_hope_48 : decode cX12_hope 48 = .ok (.invokevirtual 81, 3) := by decide +kernel
theorem dX12_hope_51 : decode cX12_hope 51 = .ok (.istore 6, 2) := by decide +kernel
theorem dX12_hope_53 : decode cX12_hope 53 = .ok (.iconst 0, 1) := by decide +kernel
theorem dX12_hope_54 : decode cX12_hope 54 = .ok (.istore 7, 2) := by decide +kernel
theorem dX12_hope_56 : decode cX12_hope 56 = .ok (.iload 7, 2) := by decide +kernel
theorem dX12_hope_58 : decode cX12_hope 58 = .ok (.aload_n 0, 1) := by decide +kernel
theorem dX12_hope_59 : decode cX12_hope 59 = .ok (.getfield 49, 3) := by decide +kernel
theorem dX12_hope_62 : decode cX12_hope 62 = .ok (.iload_n 1, 1) := by decide +kernel
theorem dX12_hope_63 : decode cX12_hope 63 = .ok (.iaload, 1) := by decide +kernel
theorem dX12_hope_64 : decode cX12_hope 64 = .ok (.if_icmp .ge 24, 3) := by decide +kernel
theorem dX12_hope_67 : decode cX12_hope 67 = .ok (.aload_n 0, 1) := by decide +kernel
theorem dX12_hope_68 : decode cX12_hope 68 = .ok (.iload 6, 2) := by decide +kernel
theorem dX12_hope_70 : decode cX12_hope 70 = .ok (.aload_n 0, 1) := by decide +kernel
theorem dX12_hope_71 : decode cX12_hope 71 = .ok (.iload_n 1, 1) := by decide +kernel
theorem dX12_hope_72 : decode cX12_hope 72 = .ok (.iload 7, 2) := by decide +kernel
theorem dX12_hope_74 : decode cX12_hope 74 = .ok (.invokevirtual 303, 3) := by decide +kernel
theorem dX12_hope_77 : decode cX12_hope 77 = .ok (.invokevirtual 243, 3) := by decide +kernel
theorem dX12_hope_80 : decode cX12_hope 80 = .ok (.istore 6, 2) := by decide +kernel
theorem dX12_hope_82 : decode cX12_hope 82 = .ok (.iinc 7 1, 3) := by decide +kernel
theorem dX12_hope_85 : decode cX12_hope 85 = .ok (.goto (-29), 3) := by decide +kernel
theorem dX12_hope_88 : decode cX12_hope 88 = .ok (.aload_n 0, 1) := by decide +kernel
theorem dX12_hope_89 : decode cX12_hope 89 = .ok (.iload_n 2, 1) := by decide +kernel
theorem dX12_hope_90 : decode cX12_hope 90 = .ok (.iload 6, 2) := by decide +kernel
theorem dX12_hope_92 : decode cX12_hope 92 = .ok (.iload_n 3, 1) := by decide +kernel
theorem dX12_hope_93 : decode cX12_hope 93 = .ok (.iload 4, 2) := by decide +kernel
theorem dX12_hope_95 : decode cX12_hope 95 = .ok (.invokevirtual 279, 3) := by decide +kernel
theorem dX12_hope_98 : decode cX12_hope 98 = .ok (.ireturn, 1) := by decide +kernel
theorem dX12_hurts_0 : decode cX12_hurts 0 = .ok (.aload_n 0, 1) := by decide +kernel
theorem dX12_hurts_1 : decode cX12_hurts 1 = .ok (.iload_n 1, 1) := by decide +kernel
theorem dX12_hurts_2 : decode cX12_hurts 2 = .ok (.aload_n 0, 1) := by decide +kernel
theorem dX12_hurts_3 : decode cX12_hurts 3 = .ok (.iload_n 2, 1) := by decide +kernel
theorem dX12_hurts_4 : decode cX12_hurts 4 = .ok (.invokevirtual 258, 3) := by decide +kernel
theorem dX12_hurts_7 : decode cX12_hurts 7 = .ok (.invokevirtual 299, 3) := by decide +kernel
theorem dX12_hurts_10 : decode cX12_hurts 10 = .ok (.istore_n 3, 1) := by decide +kernel
theorem dX12_hurts_11 : decode cX12_hurts 11 = .ok (.iload_n 3, 1) := by decide +kernel
theorem dX12_hurts_12 : decode cX12_hurts 12 = .ok (.ifCond .ge 7, 3) := by decide +kernel
theorem dX12_hurts_15 : decode cX12_hurts 15 = .ok (.iload_n 3, 1) := by decide +kernel
theorem dX12_hurts_16 : decode cX12_hurts 16 = .ok (.goto 10, 3) := by decide +kernel
theorem dX12_hurts_19 : decode cX12_hurts 19 = .ok (.aload_n 0, 1) := by decide +kernel
theorem dX12_hurts_20 : decode cX12_hurts 20 = .ok (.iload_n 1, 1) := by decide +kernel
theorem dX12_hurts_21 : decode cX12_hurts 21 = .ok (.iload_n 2, 1) := by decide +kernel
theorem dX12_hurts_22 : decode cX12_hurts 22 = .ok (.iconst 0, 1) := by decide +kernel
theorem dX12_hurts_23 : decode cX12_hurts 23 = .ok (.invokevirtual 309, 3) := by decide +kernel
theorem dX12_hurts_26 : decode cX12_hurts 26 = .ok (.ireturn, 1) := by decide +kernel
theorem dX12_known_0 : decode cX12_known 0 = .ok (.aload_n 0, 1) := by decide +kernel
theorem dX12_known_1 : decode cX12_known 1 = .ok (.iload_n 1, 1) := by decide +kernel
theorem dX12_known_2 : decode cX12_known 2 = .ok (.iconst 1, 1) := by decide +kernel
theorem dX12_known_3 : decode cX12_known 3 = .ok (.invokevirtual 299, 3) := by decide +kernel
theorem dX12_known_6 : decode cX12_known 6 = .ok (.istore_n 2, 1) := by decide +kernel
theorem dX12_known_7 : decode cX12_known 7 = .ok (.iload_n 2, 1) := by decide +kernel
theorem dX12_known_8 : decode cX12_known 8 = .ok (.ifCond .ge 5, 3) := by decide +kernel
theorem dX12_known_11 : decode cX12_known 11 = .ok (.iload_n 2, 1) := by decide +kernel
theorem dX12_known_12 : decode cX12_known 12 = .ok (.ireturn, 1) := by decide +kernel
theorem dX12_known_13 : decode cX12_known 13 = .ok (.aload_n 0, 1) := by decide +kernel
theorem dX12_known_14 : decode cX12_known 14 = .ok (.invokevirtual 81, 3) := by decide +kernel
theorem dX12_known_17 : decode cX12_known 17 = .ok (.istore_n 3, 1) := by decide +kernel
theorem dX12_known_18 : decode cX12_known 18 = .ok (.iconst (-1), 1) := by decide +kernel
theorem dX12_known_19 : decode cX12_known 19 = .ok (.istore 4, 2) := by decide +kernel
theorem dX12_known_21 : decode cX12_known 21 = .ok (.iconst 0, 1) := by decide +kernel
theorem dX12_known_22 : decode cX12_known 22 = .ok (.istore 5, 2) := by decide +kernel
theorem dX12_known_24 : decode cX12_known 24 = .ok (.iload 5, 2) := by decide +kernel
theorem dX12_known_26 : decode cX12_known 26 = .ok (.aload_n 0, 1) := by decide +kernel
theorem dX12_known_27 : decode cX12_known 27 = .ok (.getfield 49, 3) := by decide +kernel
theorem dX12_known_30 : decode cX12_known 30 = .ok (.iload_n 1, 1) := by decide +kernel
theorem dX12_known_31 : decode cX12_known 31 = .ok (.iaload, 1) := by decide +kernel
theorem dX12_known_32 : decode cX12_known 32 = .ok (.if_icmp .ge 49, 3) := by decide +kernel
theorem dX12_known_35 : decode cX12_known 35 = .ok (.aload_n 0, 1) := by decide +kernel
theorem dX12_known_36 : decode cX12_known 36 = .ok (.iload_n 3, 1) := by decide +kernel
theorem dX12_known_37 : decode cX12_known 37 = .ok (.aload_n 0, 1) := by decide +kernel
theorem dX12_known_38 : decode cX12_known 38 = .ok (.iload_n 1, 1) := by decide +kernel
theorem dX12_known_39 : decode cX12_known 39 = .ok (.iload 5, 2) := by decide +kernel
theorem dX12_known_41 : decode cX12_known 41 = .ok (.invokevirtual 303, 3) := by decide +kernel
theorem dX12_known_44 : decode cX12_known 44 = .ok (.invokevirtual 243, 3) := by decide +kernel
theorem dX12_known_47 : decode cX12_known 47 = .ok (.istore_n 3, 1) := by decide +kernel
theorem dX12_known_48 : decode cX12_known 48 = .ok (.iload_n 3, 1) := by decide +kernel
theorem dX12_known_49 : decode cX12_known 49 = .ok (.aload_n 0, 1) := by decide +kernel
theorem dX12_known_50 : decode cX12_known 50 = .ok (.invokevirtual 315, 3) := by decide +kernel
theorem dX12_known_53 : decode cX12_known 53 = .ok (.if_icmp .eq 7, 3) := by decide +kernel
theorem dX12_known_56 : decode cX12_known 56 = .ok (.iconst (-1), 1) := by decide +kernel
theorem dX12_known_57 : decode cX12_known 57 = .ok (.goto 16, 3) := by decide +kernel
theorem dX12_known_60 : decode cX12_known 60 = .ok (.iload 4, 2) := by decide +kernel
theorem dX12_known_62 : decode cX12_known 62 = .ok (.iconst (-1), 1) := by decide +kernel
theorem dX12_known_63 : decode cX12_known 63 = .ok (.if_icmp .ne 8, 3) := by decide +kernel
theorem dX12_known_66 : decode cX12_known 66 = .ok (.iload 5, 2) := by decide +kernel
theorem dX12_known_68 : decode cX12_known 68 = .ok (.goto 5, 3) := by decide +kernel
theorem dX12_known_71 : decode cX12_known 71 = .ok (.iload 4, 2) := by decide +kernel
theorem dX12_known_73 : decode cX12_known 73 = .ok (.istore 4, 2) := by decide +kernel
theorem dX12_known_75 : decode cX12_known 75 = .ok (.iinc 5 1, 3) := by decide +kernel
theorem dX12_known_78 : decode cX12_known 78 = .ok (.goto (-54), 3) := by decide +kernel
theorem dX12_known_81 : decode cX12_known 81 = .ok (.iload 4, 2) := by decide +kernel
theorem dX12_known_83 : decode cX12_known 83 = .ok (.ireturn, 1) := by decide +kernel
theorem dX12_left_0 : decode cX12_left 0 = .ok (.aload_n 0, 1) := by decide +kernel
theorem dX12_left_1 : decode cX12_left 1 = .ok (.iload_n 1, 1) := by decide +kernel
theorem dX12_left_2 : decode cX12_left 2 = .ok (.aload_n 0, 1) := by decide +kernel
theorem dX12_left_3 : decode cX12_left 3 = .ok (.iload_n 2, 1) := by decide +kernel
theorem dX12_left_4 : decode cX12_left 4 = .ok (.invokevirtual 258, 3) := by decide +kernel
theorem dX12_left_7 : decode cX12_left 7 = .ok (.invokevirtual 299, 3) := by decide +kernel
theorem dX12_left_10 : decode cX12_left 10 = .ok (.istore_n 3, 1) := by decide +kernel
theorem dX12_left_11 : decode cX12_left 11 = .ok (.iload_n 3, 1) := by decide +kernel
theorem dX12_left_12 : decode cX12_left 12 = .ok (.ifCond .ge 7, 3) := by decide +kernel
theorem dX12_left_15 : decode cX12_left 15 = .ok (.iload_n 3, 1) := by decide +kernel
theorem dX12_left_16 : decode cX12_left 16 = .ok (.goto 10, 3) := by decide +kernel
theorem dX12_left_19 : decode cX12_left 19 = .ok (.aload_n 0, 1) := by decide +kernel
theorem dX12_left_20 : decode cX12_left 20 = .ok (.iload_n 1, 1) := by decide +kernel
theorem dX12_left_21 : decode cX12_left 21 = .ok (.iload_n 2, 1) := by decide +kernel
theorem dX12_left_22 : decode cX12_left 22 = .ok (.iconst 2, 1) := by decide +kernel
theorem dX12_left_23 : decode cX12_left 23 = .ok (.invokevirtual 309, 3) := by decide +kernel
theorem dX12_left_26 : decode cX12_left 26 = .ok (.ireturn, 1) := by decide +kernel
theorem dX12_lies_0 : decode cX12_lies 0 = .ok (.aload_n 0, 1) := by decide +kernel
theorem dX12_lies_1 : decode cX12_lies 1 = .ok (.iload_n 1, 1) := by decide +kernel
theorem dX12_lies_2 : decode cX12_lies 2 = .ok (.iconst 1, 1) := by decide +kernel
theorem dX12_lies_3 : decode cX12_lies 3 = .ok (.invokevirtual 299, 3) := by decide +kernel
theorem dX12_lies_6 : decode cX12_lies 6 = .ok (.istore_n 2, 1) := by decide +kernel
theorem dX12_lies_7 : decode cX12_lies 7 = .ok (.iload_n 2, 1) := by decide +kernel
theorem dX12_lies_8 : decode cX12_lies 8 = .ok (.ifCond .ge 5, 3) := by decide +kernel
theorem dX12_lies_11 : decode cX12_lies 11 = .ok (.iload_n 2, 1) := by decide +kernel
theorem dX12_lies_12 : decode cX12_lies 12 = .ok (.ireturn, 1) := by decide +kernel
theorem dX12_lies_13 : decode cX12_lies 13 = .ok (.iconst 0, 1) := by decide +kernel
theorem dX12_lies_14 : decode cX12_lies 14 = .ok (.istore_n 3, 1) := by decide +kernel
theorem dX12_lies_15 : decode cX12_lies 15 = .ok (.iload_n 3, 1) := by decide +kernel
theorem dX12_lies_16 : decode cX12_lies 16 = .ok (.aload_n 0, 1) := by decide +kernel
theorem dX12_lies_17 : decode cX12_lies 17 = .ok (.getfield 49, 3) := by decide +kernel
theorem dX12_lies_20 : decode cX12_lies 20 = .ok (.iload_n 1, 1) := by decide +kernel
theorem dX12_lies_21 : decode cX12_lies 21 = .ok (.iaload, 1) := by decide +kernel
theorem dX12_lies_22 : decode cX12_lies 22 = .ok (.if_icmp .ge 24, 3) := by decide +kernel
theorem dX12_lies_25 : decode cX12_lies 25 = .ok (.aload_n 0, 1) := by decide +kernel
theorem dX12_lies_26 : decode cX12_lies 26 = .ok (.aload_n 0, 1) := by decide +kernel
theorem dX12_lies_27 : decode cX12_lies 27 = .ok (.iload_n 1, 1) := by decide +kernel
theorem dX12_lies_28 : decode cX12_lies 28 = .ok (.iload_n 3, 1) := by decide +kernel
theorem dX12_lies_29 : decode cX12_lies 29 = .ok (.invokevirtual 303, 3) := by decide +kernel
theorem dX12_lies_32 : decode cX12_lies 32 = .ok (.invokevirtual 93, 3) := by decide +kernel
theorem dX12_lies_35 : decode cX12_lies 35 = .ok (.ifCond .ne 5, 3) := by decide +kernel
theorem dX12_lies_38 : decode cX12_lies 38 = .ok (.iload_n 3, 1) := by decide +kernel
theorem dX12_lies_39 : decode cX12_lies 39 = .ok (.ireturn, 1) := by decide +kernel
theorem dX12_lies_40 : decode cX12_lies 40 = .ok (.iinc 3 1, 3) := by decide +kernel
theorem dX12_lies_43 : decode cX12_lies 43 = .ok (.goto (-28), 3) := by decide +kernel
theorem dX12_lies_46 : decode cX12_lies 46 = .ok (.iconst (-1), 1) := by decide +kernel
theorem dX12_lies_47 : decode cX12_lies 47 = .ok (.ireturn, 1) := by decide +kernel
theorem dX12_shames_0 : decode cX12_shames 0 = .ok (.aload_n 0, 1) := by decide +kernel
theorem dX12_shames_1 : decode cX12_shames 1 = .ok (.iload_n 1, 1) := by decide +kernel
theorem dX12_shames_2 : decode cX12_shames 2 = .ok (.iconst 1, 1) := by decide +kernel
theorem dX12_shames_3 : decode cX12_shames 3 = .ok (.invokevirtual 299, 3) := by decide +kernel
theorem dX12_shames_6 : decode cX12_shames 6 = .ok (.istore_n 2, 1) := by decide +kernel
theorem dX12_shames_7 : decode cX12_shames 7 = .ok (.iload_n 2, 1) := by decide +kernel
theorem dX12_shames_8 : decode cX12_shames 8 = .ok (.ifCond .ge 5, 3) := by decide +kernel
theorem dX12_shames_11 : decode cX12_shames 11 = .ok (.iload_n 2, 1) := by decide +kernel
theorem dX12_shames_12 : decode cX12_shames 12 = .ok (.ireturn, 1) := by decide +kernel
theorem dX12_shames_13 : decode cX12_shames 13 = .ok (.iconst 0, 1) := by decide +kernel
theorem dX12_shames_14 : decode cX12_shames 14 = .ok (.istore_n 3, 1) := by decide +kernel
theorem dX12_shames_15 : decode cX12_shames 15 = .ok (.iconst 0, 1) := by decide +kernel
theorem dX12_shames_16 : decode cX12_shames 16 = .ok (.istore 4, 2) := by decide +kernel
theorem dX12_shames_18 : decode cX12_shames 18 = .ok (.iload 4, 2) := by decide +kernel
theorem dX12_shames_20 : decode cX12_shames 20 = .ok (.aload_n 0, 1) := by decide +kernel
theorem dX12_shames_21 : decode cX12_shames 21 = .ok (.getfield 49, 3) := by decide +kernel
theorem dX12_shames_24 : decode cX12_shames 24 = .ok (.iload_n 1, 1) := by decide +kernel
theorem dX12_shames_25 : decode cX12_shames 25 = .ok (.iaload, 1) := by decide +kernel
theorem dX12_shames_26 : decode cX12_shames 26 = .ok (.if_icmp .ge 23, 3) := by decide +kernel
theorem dX12_shames_29 : decode cX12_shames 29 = .ok (.iload_n 3, 1) := by decide +kernel
theorem dX12_shames_30 : decode cX12_shames 30 = .ok (.aload_n 0, 1) := by decide +kernel
theorem dX12_shames_31 : decode cX12_shames 31 = .ok (.aload_n 0, 1) := by decide +kernel
theorem dX12_shames_32 : decode cX12_shames 32 = .ok (.iload_n 1, 1) := by decide +kernel
theorem dX12_shames_33 : decode cX12_shames 33 = .ok (.iload 4, 2) := by decide +kernel
theorem dX12_shames_35 : decode cX12_shames 35 = .ok (.invokevirtual 303, 3) := by decide +kernel
theorem dX12_shames_38 : decode cX12_shames 38 = .ok (.invokevirtual 312, 3) := by decide +kernel
theorem dX12_shames_41 : decode cX12_shames 41 = .ok (.iadd, 1) := by decide +kernel
theorem dX12_shames_42 : decode cX12_shames 42 = .ok (.istore_n 3, 1) := by decide +kernel
theorem dX12_shames_43 : decode cX12_shames 43 = .ok (.iinc 4 1, 3) := by decide +kernel
theorem dX12_shames_46 : decode cX12_shames 46 = .ok (.goto (-28), 3) := by decide +kernel
theorem dX12_shames_49 : decode cX12_shames 49 = .ok (.iload_n 3, 1) := by decide +kernel
theorem dX12_shames_50 : decode cX12_shames 50 = .ok (.ireturn, 1) := by decide +kernel
theorem dX12_weekOf_0 : decode cX12_weekOf 0 = .ok (.aload_n 0, 1) := by decide +kernel
theorem dX12_weekOf_1 : decode cX12_weekOf 1 = .ok (.invokevirtual 81, 3) := by decide +kernel
theorem dX12_weekOf_4 : decode cX12_weekOf 4 = .ok (.istore 4, 2) := by decide +kernel
theorem dX12_weekOf_6 : decode cX12_weekOf 6 = .ok (.iconst 0, 1) := by decide +kernel
theorem dX12_weekOf_7 : decode cX12_weekOf 7 = .ok (.istore 5, 2) := by decide +kernel
theorem dX12_weekOf_9 : decode cX12_weekOf 9 = .ok (.iconst 0, 1) := by decide +kernel
theorem dX12_weekOf_10 : decode cX12_weekOf 10 = .ok (.istore 6, 2) := by decide +kernel
theorem dX12_weekOf_12 : decode cX12_weekOf 12 = .ok (.iload 6, 2) := by decide +kernel
theorem dX12_weekOf_14 : decode cX12_weekOf 14 = .ok (.aload_n 0, 1) := by decide +kernel
theorem dX12_weekOf_15 : decode cX12_weekOf 15 = .ok (.getfield 49, 3) := by decide +kernel
theorem dX12_weekOf_18 : decode cX12_weekOf 18 = .ok (.iload_n 1, 1) := by decide +kernel
theorem dX12_weekOf_19 : decode cX12_weekOf 19 = .ok (.iaload, 1) := by decide +kernel
theorem dX12_weekOf_20 : decode cX12_weekOf 20 = .ok (.if_icmp .ge 83, 3) := by decide +kernel
theorem dX12_weekOf_23 : decode cX12_weekOf 23 = .ok (.aload_n 0, 1) := by decide +kernel
theorem dX12_weekOf_24 : decode cX12_weekOf 24 = .ok (.iload_n 2, 1) := by decide +kernel
theorem dX12_weekOf_25 : decode cX12_weekOf 25 = .ok (.iload 4, 2) := by decide +kernel
theorem dX12_weekOf_27 : decode cX12_weekOf 27 = .ok (.aload_n 0, 1) := by decide +kernel
theorem dX12_weekOf_28 : decode cX12_weekOf 28 = .ok (.iload_n 1, 1) := by decide +kernel
theorem dX12_weekOf_29 : decode cX12_weekOf 29 = .ok (.iload 6, 2) := by decide +kernel
theorem dX12_weekOf_31 : decode cX12_weekOf 31 = .ok (.invokevirtual 303, 3) := by decide +kernel
theorem dX12_weekOf_34 : decode cX12_weekOf 34 = .ok (.invokevirtual 289, 3) := by decide +kernel
theorem dX12_weekOf_37 : decode cX12_weekOf 37 = .ok (.istore 7, 2) := by decide +kernel
theorem dX12_weekOf_39 : decode cX12_weekOf 39 = .ok (.iload_n 3, 1) := by decide +kernel
theorem dX12_weekOf_40 : decode cX12_weekOf 40 = .ok (.iconst 1, 1) := by decide +kernel
theorem dX12_weekOf_41 : decode cX12_weekOf 41 = .ok (.if_icmp .ne 13, 3) := by decide +kernel
theorem dX12_weekOf_44 : decode cX12_weekOf 44 = .ok (.iload 5, 2) := by decide +kernel
theorem dX12_weekOf_46 : decode cX12_weekOf 46 = .ok (.iload 7, 2) := by decide +kernel
theorem dX12_weekOf_48 : decode cX12_weekOf 48 = .ok (.invokestatic 250, 3) := by decide +kernel
theorem dX12_weekOf_51 : decode cX12_weekOf 51 = .ok (.goto 29, 3) := by decide +kernel
theorem dX12_weekOf_54 : decode cX12_weekOf 54 = .ok (.iload 5, 2) := by decide +kernel
theorem dX12_weekOf_56 : decode cX12_weekOf 56 = .ok (.iload_n 3, 1) := by decide +kernel
theorem dX12_weekOf_57 : decode cX12_weekOf 57 = .ok (.ifCond .ne 8, 3) := by decide +kernel
theorem dX12_weekOf_60 : decode cX12_weekOf 60 = .ok (.iload 7, 2) := by decide +kernel
theorem dX12_weekOf_62 : decode cX12_weekOf 62 = .ok (.goto 17, 3) := by decide +kernel
theorem dX12_weekOf_65 : decode cX12_weekOf 65 = .ok (.aload_n 0, 1) := by decide +kernel
theorem dX12_weekOf_66 : decode cX12_weekOf 66 = .ok (.iload 7, 2) := by decide +kernel
theorem dX12_weekOf_68 : decode cX12_weekOf 68 = .ok (.iload 6, 2) := by decide +kernel
theorem dX12_weekOf_70 : decode cX12_weekOf 70 = .ok (.aload_n 0, 1) := by decide +kernel
theorem dX12_weekOf_71 : decode cX12_weekOf 71 = .ok (.getfield 9, 3) := by decide +kernel
theorem dX12_weekOf_74 : decode cX12_weekOf 74 = .ok (.iconst 2, 1) := by decide +kernel
theorem dX12_weekOf_75 : decode cX12_weekOf 75 = .ok (.iaload, 1) := by decide +kernel
theorem dX12_weekOf_76 : decode cX12_weekOf 76 = .ok (.invokevirtual 306, 3) := by decide +kernel
theorem dX12_weekOf_79 : decode cX12_weekOf 79 = .ok (.iadd, 1) := by decide +kernel
theorem dX12_weekOf_80 : decode cX12_weekOf 80 = .ok (.istore 5, 2) := by decide +kernel
theorem dX12_weekOf_82 : decode cX12_weekOf 82 = .ok (.aload_n 0, 1) := by decide +kernel
theorem dX12_weekOf_83 : decode cX12_weekOf 83 = .ok (.iload 4, 2) := by decide +kernel
theorem dX12_weekOf_85 : decode cX12_weekOf 85 = .ok (.aload_n 0, 1) := by decide +kernel
theorem dX12_weekOf_86 : decode cX12_weekOf 86 = .ok (.iload_n 1, 1) := by decide +kernel
theorem dX12_weekOf_87 : decode cX12_weekOf 87 = .ok (.iload 6, 2) := by decide +kernel
theorem dX12_weekOf_89 : decode cX12_weekOf 89 = .ok (.invokevirtual 303, 3) := by decide +kernel
theorem dX12_weekOf_92 : decode cX12_weekOf 92 = .ok (.invokevirtual 243, 3) := by decide +kernel
theorem dX12_weekOf_95 : decode cX12_weekOf 95 = .ok (.istore 4, 2) := by decide +kernel
theorem dX12_weekOf_97 : decode cX12_weekOf 97 = .ok (.iinc 6 1, 3) := by decide +kernel
theorem dX12_weekOf_100 : decode cX12_weekOf 100 = .ok (.goto (-88), 3) := by decide +kernel
theorem dX12_weekOf_103 : decode cX12_weekOf 103 = .ok (.iload 5, 2) := by decide +kernel
theorem dX12_weekOf_105 : decode cX12_weekOf 105 = .ok (.ireturn, 1) := by decide +kernel
theorem dX12_worst_0 : decode cX12_worst 0 = .ok (.aload_n 0, 1) := by decide +kernel
theorem dX12_worst_1 : decode cX12_worst 1 = .ok (.iload_n 1, 1) := by decide +kernel
theorem dX12_worst_2 : decode cX12_worst 2 = .ok (.aload_n 0, 1) := by decide +kernel
theorem dX12_worst_3 : decode cX12_worst 3 = .ok (.iload_n 2, 1) := by decide +kernel
theorem dX12_worst_4 : decode cX12_worst 4 = .ok (.invokevirtual 258, 3) := by decide +kernel
theorem dX12_worst_7 : decode cX12_worst 7 = .ok (.invokevirtual 299, 3) := by decide +kernel
theorem dX12_worst_10 : decode cX12_worst 10 = .ok (.istore_n 3, 1) := by decide +kernel
theorem dX12_worst_11 : decode cX12_worst 11 = .ok (.iload_n 3, 1) := by decide +kernel
theorem dX12_worst_12 : decode cX12_worst 12 = .ok (.ifCond .ge 7, 3) := by decide +kernel
theorem dX12_worst_15 : decode cX12_worst 15 = .ok (.iload_n 3, 1) := by decide +kernel
theorem dX12_worst_16 : decode cX12_worst 16 = .ok (.goto 10, 3) := by decide +kernel
theorem dX12_worst_19 : decode cX12_worst 19 = .ok (.aload_n 0, 1) := by decide +kernel
theorem dX12_worst_20 : decode cX12_worst 20 = .ok (.iload_n 1, 1) := by decide +kernel
theorem dX12_worst_21 : decode cX12_worst 21 = .ok (.iload_n 2, 1) := by decide +kernel
theorem dX12_worst_22 : decode cX12_worst 22 = .ok (.iconst 1, 1) := by decide +kernel
theorem dX12_worst_23 : decode cX12_worst 23 = .ok (.invokevirtual 309, 3) := by decide +kernel
theorem dX12_worst_26 : decode cX12_worst 26 = .ok (.ireturn, 1) := by decide +kernel
