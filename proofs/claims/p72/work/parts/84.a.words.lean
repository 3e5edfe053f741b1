theorem b_1151 : Cond.methodLink RX12 172 yX12_told ∈ BIG := bi (tin_7 _ (List.mem_of_getElem? (i := 23) rfl)) rfl
theorem b_1152 : Cond.methodLink RX12 178 yX12_freshState ∈ BIG := bi (tin_7 _ (List.mem_of_getElem? (i := 32) rfl)) rfl
theorem b_1153 : Cond.code yX12_freshState cX12_freshState 1 (some .int) ∈ BIG := bi (tin_7 _ (List.mem_of_getElem? (i := 35) rfl)) rfl
theorem b_1154 : Cond.instanceMethod yX12_freshState ∈ BIG := bi (tin_7 _ (List.mem_of_getElem? (i := 34) rfl)) rfl
theorem b_1155 : Cond.selects RX12 yX12_freshState yX12_freshState ∈ BIG := bi (sin_8 _ (List.mem_map.mpr ⟨(yX12_freshState, 29), List.mem_of_getElem? (i := 0) rfl, rfl⟩)) rfl
theorem b_1156 : Cond.code yX12_told cX12_told 4 (some .int) ∈ BIG := bi (tin_7 _ (List.mem_of_getElem? (i := 26) rfl)) rfl
theorem b_1157 : Cond.instanceMethod yX12_told ∈ BIG := bi (tin_7 _ (List.mem_of_getElem? (i := 25) rfl)) rfl
theorem b_1158 : Cond.selects RX12 yX12_told yX12_told ∈ BIG := bi (sin_7 _ (List.mem_map.mpr ⟨(yX12_told, 29), List.mem_of_getElem? (i := 14) rfl, rfl⟩)) rfl
theorem m_yX12_freshState : MV yX12_freshState cX12_freshState 1 (some .int) 0 := ⟨b_1153, b_1154, b_1155, b_810, by decide +kernel⟩
theorem m_yX12_told : MV yX12_told cX12_told 4 (some .int) 3 := ⟨b_1156, b_1157, b_1158, b_810, by decide +kernel⟩
theorem dX12_readFirst_0 : decode cX12_readFirst 0 = .ok (.aload_n 0, 1) := by decide +kernel
theorem dX12_readFirst_1 : decode cX12_readFirst 1 = .ok (.ldc 168, 2) := by decide +kernel
theorem dX12_readFirst_3 : decode cX12_readFirst 3 = .ok (.invokevirtual 161, 3) := by decide +kernel
theorem dX12_readFirst_6 : decode cX12_readFirst 6 = .ok (.aload_n 0, 1) := by decide +kernel
theorem dX12_readFirst_7 : decode cX12_readFirst 7 = .ok (.getfield 31, 3) := by decide +kernel
theorem dX12_readFirst_10 : decode cX12_readFirst 10 = .ok (.iconst 0, 1) := by decide +kernel
theorem dX12_readFirst_11 : decode cX12_readFirst 11 = .ok (.aload_n 0, 1) := by decide +kernel
theorem dX12_readFirst_12 : decode cX12_readFirst 12 = .ok (.ldc 170, 2) := by decide +kernel
theorem dX12_readFirst_14 : decode cX12_readFirst 14 = .ok (.iconst 2, 1) := by decide +kernel
theorem dX12_readFirst_15 : decode cX12_readFirst 15 = .ok (.bipush 8, 2) := by decide +kernel
theorem dX12_readFirst_17 : decode cX12_readFirst 17 = .ok (.invokevirtual 172, 3) := by decide +kernel
theorem dX12_readFirst_20 : decode cX12_readFirst 20 = .ok (.iastore, 1) := by decide +kernel
theorem dX12_readFirst_21 : decode cX12_readFirst 21 = .ok (.aload_n 0, 1) := by decide +kernel
theorem dX12_readFirst_22 : decode cX12_readFirst 22 = .ok (.ldc 176, 2) := by decide +kernel
theorem dX12_readFirst_24 : decode cX12_readFirst 24 = .ok (.invokevirtual 161, 3) := by decide +kernel
theorem dX12_readFirst_27 : decode cX12_readFirst 27 = .ok (.aload_n 0, 1) := by decide +kernel
theorem dX12_readFirst_28 : decode cX12_readFirst 28 = .ok (.getfield 31, 3) := by decide +kernel
theorem dX12_readFirst_31 : decode cX12_readFirst 31 = .ok (.iconst 1, 1) := by decide +kernel
theorem dX12_readFirst_32 : decode cX12_readFirst 32 = .ok (.aload_n 0, 1) := by decide +kernel
theorem dX12_readFirst_33 : decode cX12_readFirst 33 = .ok (.invokevirtual 178, 3) := by decide +kernel
theorem dX12_readFirst_36 : decode cX12_readFirst 36 = .ok (.iastore, 1) := by decide +kernel
theorem dX12_readFirst_37 : decode cX12_readFirst 37 = .ok (.aload_n 0, 1) := by decide +kernel
theorem dX12_readFirst_38 : decode cX12_readFirst 38 = .ok (.getfield 31, 3) := by decide +kernel
theorem dX12_readFirst_41 : decode cX12_readFirst 41 = .ok (.iconst 2, 1) := by decide +kernel
theorem dX12_readFirst_42 : decode cX12_readFirst 42 = .ok (.aload_n 0, 1) := by decide +kernel
theorem dX12_readFirst_43 : decode cX12_readFirst 43 = .ok (.ldc 181, 2) := by decide +kernel
theorem dX12_readFirst_45 : decode cX12_readFirst 45 = .ok (.iconst 1, 1) := by decide +kernel
theorem dX12_readFirst_46 : decode cX12_readFirst 46 = .ok (.bipush 10, 2) := by decide +kernel
theorem dX12_readFirst_48 : decode cX12_readFirst 48 = .ok (.invokevirtual 172, 3) := by decide +kernel
theorem dX12_readFirst_51 : decode cX12_readFirst 51 = .ok (.iastore, 1) := by decide +kernel
theorem dX12_readFirst_52 : decode cX12_readFirst 52 = .ok (.aload_n 0, 1) := by decide +kernel
theorem dX12_readFirst_53 : decode cX12_readFirst 53 = .ok (.getfield 31, 3) := by decide +kernel
theorem dX12_readFirst_56 : decode cX12_readFirst 56 = .ok (.iconst 3, 1) := by decide +kernel
theorem dX12_readFirst_57 : decode cX12_readFirst 57 = .ok (.aload_n 0, 1) := by decide +kernel
theorem dX12_readFirst_58 : decode cX12_readFirst 58 = .ok (.ldc 183, 2) := by decide +kernel
theorem dX12_readFirst_60 : decode cX12_readFirst 60 = .ok (.iconst 0, 1) := by decide +kernel
theorem dX12_readFirst_61 : decode cX12_readFirst 61 = .ok (.bipush 100, 2) := by decide +kernel
theorem dX12_readFirst_63 : decode cX12_readFirst 63 = .ok (.invokevirtual 172, 3) := by decide +kernel
theorem dX12_readFirst_66 : decode cX12_readFirst 66 = .ok (.iastore, 1) := by decide +kernel
theorem dX12_readFirst_67 : decode cX12_readFirst 67 = .ok (.aload_n 0, 1) := by decide +kernel
theorem dX12_readFirst_68 : decode cX12_readFirst 68 = .ok (.getfield 31, 3) := by decide +kernel
theorem dX12_readFirst_71 : decode cX12_readFirst 71 = .ok (.iconst 4, 1) := by decide +kernel
theorem dX12_readFirst_72 : decode cX12_readFirst 72 = .ok (.aload_n 0, 1) := by decide +kernel
theorem dX12_readFirst_73 : decode cX12_readFirst 73 = .ok (.ldc 185, 2) := by decide +kernel
theorem dX12_readFirst_75 : decode cX12_readFirst 75 = .ok (.iconst 0, 1) := by decide +kernel
theorem dX12_readFirst_76 : decode cX12_readFirst 76 = .ok (.bipush 100, 2) := by decide +kernel
theorem dX12_readFirst_78 : decode cX12_readFirst 78 = .ok (.invokevirtual 172, 3) := by decide +kernel
theorem dX12_readFirst_81 : decode cX12_readFirst 81 = .ok (.iastore, 1) := by decide +kernel
theorem dX12_readFirst_82 : decode cX12_readFirst 82 = .ok (.return_, 1) := by decide +kernel
theorem dX12_readHearer_0 : decode cX12_readHearer 0 = .ok (.bipush 19, 2) := by decide +kernel
theorem dX12_readHearer_2 : decode cX12_readHearer 2 = .ok (.bipush 9, 2) := by decide +kernel
theorem dX12_readHearer_4 : decode cX12_readHearer 4 = .ok (.aload_n 0, 1) := by decide +kernel
theorem dX12_readHearer_5 : decode cX12_readHearer 5 = .ok (.getfield 31, 3) := by decide +kernel
theorem dX12_readHearer_8 : decode cX12_readHearer 8 = .ok (.iconst 5, 1) := by decide +kernel
theorem dX12_readHearer_9 : decode cX12_readHearer 9 = .ok (.iaload, 1) := by decide +kernel
theorem dX12_readHearer_10 : decode cX12_readHearer 10 = .ok (.imul, 1) := by decide +kernel
theorem dX12_readHearer_11 : decode cX12_readHearer 11 = .ok (.iadd, 1) := by decide +kernel
theorem dX12_readHearer_12 : decode cX12_readHearer 12 = .ok (.istore_n 1, 1) := by decide +kernel
theorem dX12_readHearer_13 : decode cX12_readHearer 13 = .ok (.iconst 0, 1) := by decide +kernel
theorem dX12_readHearer_14 : decode cX12_readHearer 14 = .ok (.istore_n 2, 1) := by decide +kernel
theorem dX12_readHearer_15 : decode cX12_readHearer 15 = .ok (.aload_n 0, 1) := by decide +kernel
theorem dX12_readHearer_16 : decode cX12_readHearer 16 = .ok (.ldc 187, 2) := by decide +kernel
theorem dX12_readHearer_18 : decode cX12_readHearer 18 = .ok (.invokevirtual 161, 3) := by decide +kernel
theorem dX12_readHearer_21 : decode cX12_readHearer 21 = .ok (.iconst 0, 1) := by decide +kernel
theorem dX12_readHearer_22 : decode cX12_readHearer 22 = .ok (.istore_n 3, 1) := by decide +kernel
theorem dX12_readHearer_23 : decode cX12_readHearer 23 = .ok (.iload_n 3, 1) := by decide +kernel
theorem dX12_readHearer_24 : decode cX12_readHearer 24 = .ok (.aload_n 0, 1) := by decide +kernel
theorem dX12_readHearer_25 : decode cX12_readHearer 25 = .ok (.getfield 31, 3) := by decide +kernel
theorem dX12_readHearer_28 : decode cX12_readHearer 28 = .ok (.iconst 0, 1) := by decide +kernel
theorem dX12_readHearer_29 : decode cX12_readHearer 29 = .ok (.iaload, 1) := by decide +kernel
theorem dX12_readHearer_30 : decode cX12_readHearer 30 = .ok (.if_icmp .ge 78, 3) := by decide +kernel
theorem dX12_readHearer_33 : decode cX12_readHearer 33 = .ok (.iload_n 3, 1) := by decide +kernel
theorem dX12_readHearer_34 : decode cX12_readHearer 34 = .ok (.aload_n 0, 1) := by decide +kernel
theorem dX12_readHearer_35 : decode cX12_readHearer 35 = .ok (.getfield 31, 3) := by decide +kernel
theorem dX12_readHearer_38 : decode cX12_readHearer 38 = .ok (.iconst 0, 1) := by decide +kernel
theorem dX12_readHearer_39 : decode cX12_readHearer 39 = .ok (.iaload, 1) := by decide +kernel
theorem dX12_readHearer_40 : decode cX12_readHearer 40 = .ok (.iconst 1, 1) := by decide +kernel
theorem dX12_readHearer_41 : decode cX12_readHearer 41 = .ok (.isub, 1) := by decide +kernel
theorem dX12_readHearer_42 : decode cX12_readHearer 42 = .ok (.if_icmp .ne 34, 3) := by decide +kernel
theorem dX12_readHearer_45 : decode cX12_readHearer 45 = .ok (.iload_n 2, 1) := by decide +kernel
theorem dX12_readHearer_46 : decode cX12_readHearer 46 = .ok (.ifCond .ne 30, 3) := by decide +kernel
theorem dX12_readHearer_49 : decode cX12_readHearer 49 = .ok (.aload_n 0, 1) := by decide +kernel
theorem dX12_readHearer_50 : decode cX12_readHearer 50 = .ok (.invokevirtual 135, 3) := by decide +kernel
theorem dX12_readHearer_53 : decode cX12_readHearer 53 = .ok (.ifCond .eq 23, 3) := by decide +kernel
theorem dX12_readHearer_56 : decode cX12_readHearer 56 = .ok (.aload_n 0, 1) := by decide +kernel
theorem dX12_readHearer_57 : decode cX12_readHearer 57 = .ok (.getfield 112, 3) := by decide +kernel
theorem dX12_readHearer_60 : decode cX12_readHearer 60 = .ok (.iconst 2, 1) := by decide +kernel
theorem dX12_readHearer_61 : decode cX12_readHearer 61 = .ok (.if_icmp .ne 15, 3) := by decide +kernel
theorem dX12_readHearer_64 : decode cX12_readHearer 64 = .ok (.aload_n 0, 1) := by decide +kernel
theorem dX12_readHearer_65 : decode cX12_readHearer 65 = .ok (.getfield 123, 3) := by decide +kernel
theorem dX12_readHearer_68 : decode cX12_readHearer 68 = .ok (.ifCond .ne 8, 3) := by decide +kernel
theorem dX12_readHearer_71 : decode cX12_readHearer 71 = .ok (.aload_n 0, 1) := by decide +kernel
theorem dX12_readHearer_72 : decode cX12_readHearer 72 = .ok (.iconst 2, 1) := by decide +kernel
theorem dX12_readHearer_73 : decode cX12_readHearer 73 = .ok (.invokevirtual 157, 3) := by decide +kernel
theorem dX12_readHearer_76 : decode cX12_readHearer 76 = .ok (.aload_n 0, 1) := by decide +kernel
theorem dX12_readHearer_77 : decode cX12_readHearer 77 = .ok (.getfield 31, 3) := by decide +kernel
theorem dX12_readHearer_80 : decode cX12_readHearer 80 = .ok (.iload_n 1, 1) := by decide +kernel
theorem dX12_readHearer_81 : decode cX12_readHearer 81 = .ok (.iload_n 3, 1) := by decide +kernel
theorem dX12_readHearer_82 : decode cX12_readHearer 82 = .ok (.iadd, 1) := by decide +kernel
theorem dX12_readHearer_83 : decode cX12_readHearer 83 = .ok (.aload_n 0, 1) := by decide +kernel
theorem dX12_readHearer_84 : decode cX12_readHearer 84 = .ok (.iconst 0, 1) := by decide +kernel
theorem dX12_readHearer_85 : decode cX12_readHearer 85 = .ok (.bipush 20, 2) := by decide +kernel
theorem dX12_readHearer_87 : decode cX12_readHearer 87 = .ok (.invokevirtual 165, 3) := by decide +kernel
theorem dX12_readHearer_90 : decode cX12_readHearer 90 = .ok (.iastore, 1) := by decide +kernel
theorem dX12_readHearer_91 : decode cX12_readHearer 91 = .ok (.iload_n 2, 1) := by decide +kernel
theorem dX12_readHearer_92 : decode cX12_readHearer 92 = .ok (.aload_n 0, 1) := by decide +kernel
theorem dX12_readHearer_93 : decode cX12_readHearer 93 = .ok (.getfield 31, 3) := by decide +kernel
theorem dX12_readHearer_96 : decode cX12_readHearer 96 = .ok (.iload_n 1, 1) := by decide +kernel
theorem dX12_readHearer_97 : decode cX12_readHearer 97 = .ok (.iload_n 3, 1) := by decide +kernel
theorem dX12_readHearer_98 : decode cX12_readHearer 98 = .ok (.iadd, 1) := by decide +kernel
theorem dX12_readHearer_99 : decode cX12_readHearer 99 = .ok (.iaload, 1) := by decide +kernel
theorem dX12_readHearer_100 : decode cX12_readHearer 100 = .ok (.iadd, 1) := by decide +kernel
theorem dX12_readHearer_101 : decode cX12_readHearer 101 = .ok (.istore_n 2, 1) := by decide +kernel
theorem dX12_readHearer_102 : decode cX12_readHearer 102 = .ok (.iinc 3 1, 3) := by decide +kernel
theorem dX12_readHearer_105 : decode cX12_readHearer 105 = .ok (.goto (-82), 3) := by decide +kernel
theorem dX12_readHearer_108 : decode cX12_readHearer 108 = .ok (.aload_n 0, 1) := by decide +kernel
theorem dX12_readHearer_109 : decode cX12_readHearer 109 = .ok (.getfield 31, 3) := by decide +kernel
theorem dX12_readHearer_112 : decode cX12_readHearer 112 = .ok (.iload_n 1, 1) := by decide +kernel
theorem dX12_readHearer_113 : decode cX12_readHearer 113 = .ok (.bipush 8, 2) := by decide +kernel
theorem dX12_readHearer_115 : decode cX12_readHearer 115 = .ok (.iadd, 1) := by decide +kernel
theorem dX12_readHearer_116 : decode cX12_readHearer 116 = .ok (.aload_n 0, 1) := by decide +kernel
theorem dX12_readHearer_117 : decode cX12_readHearer 117 = .ok (.ldc 189, 2) := by decide +kernel
theorem dX12_readHearer_119 : decode cX12_readHearer 119 = .ok (.invokevirtual 147, 3) := by decide +kernel
theorem dX12_readHearer_122 : decode cX12_readHearer 122 = .ok (.ifCond .eq 14, 3) := by decide +kernel
theorem dX12_readHearer_125 : decode cX12_readHearer 125 = .ok (.aload_n 0, 1) := by decide +kernel
theorem dX12_readHearer_126 : decode cX12_readHearer 126 = .ok (.ldc 189, 2) := by decide +kernel
theorem dX12_readHearer_128 : decode cX12_readHearer 128 = .ok (.iconst 1, 1) := by decide +kernel
theorem dX12_readHearer_129 : decode cX12_readHearer 129 = .ok (.iconst 5, 1) := by decide +kernel
theorem dX12_readHearer_130 : decode cX12_readHearer 130 = .ok (.invokevirtual 172, 3) := by decide +kernel
theorem dX12_readHearer_133 : decode cX12_readHearer 133 = .ok (.goto 4, 3) := by decide +kernel
theorem dX12_readHearer_136 : decode cX12_readHearer 136 = .ok (.iconst 0, 1) := by decide +kernel
theorem dX12_readHearer_137 : decode cX12_readHearer 137 = .ok (.iastore, 1) := by decide +kernel
theorem dX12_readHearer_138 : decode cX12_readHearer 138 = .ok (.aload_n 0, 1) := by decide +kernel
theorem dX12_readHearer_139 : decode cX12_readHearer 139 = .ok (.getfield 31, 3) := by decide +kernel
theorem dX12_readHearer_142 : decode cX12_readHearer 142 = .ok (.iconst 5, 1) := by decide +kernel
theorem dX12_readHearer_143 : decode cX12_readHearer 143 = .ok (.dup2, 1) := by decide +kernel
theorem dX12_readHearer_144 : decode cX12_readHearer 144 = .ok (.iaload, 1) := by decide +kernel
theorem dX12_readHearer_145 : decode cX12_readHearer 145 = .ok (.iconst 1, 1) := by decide +kernel
theorem dX12_readHearer_146 : decode cX12_readHearer 146 = .ok (.iadd, 1) := by decide +kernel
theorem dX12_readHearer_147 : decode cX12_readHearer 147 = .ok (.iastore, 1) := by decide +kernel
theorem dX12_readHearer_148 : decode cX12_readHearer 148 = .ok (.return_, 1) := by decide +kernel
theorem dX12_readNews_0 : decode cX12_readNews 0 = .ok (.aload_n 0, 1) := by decide +kernel
theorem dX12_readNews_1 : decode cX12_readNews 1 = .ok (.ldc 195, 2) := by decide +kernel
theorem dX12_readNews_3 : decode cX12_readNews 3 = .ok (.invokevirtual 154, 3) := by decide +kernel
theorem dX12_readNews_6 : decode cX12_readNews 6 = .ok (.istore_n 1, 1) := by decide +kernel
theorem dX12_readNews_7 : decode cX12_readNews 7 = .ok (.iload_n 1, 1) := by decide +kernel
theorem dX12_readNews_8 : decode cX12_readNews 8 = .ok (.ifCond .ne 9, 3) := by decide +kernel
theorem dX12_readNews_11 : decode cX12_readNews 11 = .ok (.aload_n 0, 1) := by decide +kernel
theorem dX12_readNews_12 : decode cX12_readNews 12 = .ok (.ldc 196, 2) := by decide +kernel
theorem dX12_readNews_14 : decode cX12_readNews 14 = .ok (.invokevirtual 161, 3) := by decide +kernel
theorem dX12_readNews_17 : decode cX12_readNews 17 = .ok (.aload_n 0, 1) := by decide +kernel
theorem dX12_readNews_18 : decode cX12_readNews 18 = .ok (.iconst 1, 1) := by decide +kernel
theorem dX12_readNews_19 : decode cX12_readNews 19 = .ok (.bipush 99, 2) := by decide +kernel
theorem dX12_readNews_21 : decode cX12_readNews 21 = .ok (.invokevirtual 165, 3) := by decide +kernel
theorem dX12_readNews_24 : decode cX12_readNews 24 = .ok (.istore_n 2, 1) := by decide +kernel
theorem dX12_readNews_25 : decode cX12_readNews 25 = .ok (.aload_n 0, 1) := by decide +kernel
theorem dX12_readNews_26 : decode cX12_readNews 26 = .ok (.getfield 31, 3) := by decide +kernel
theorem dX12_readNews_29 : decode cX12_readNews 29 = .ok (.bipush 95, 2) := by decide +kernel
theorem dX12_readNews_31 : decode cX12_readNews 31 = .ok (.aload_n 0, 1) := by decide +kernel
theorem dX12_readNews_32 : decode cX12_readNews 32 = .ok (.getfield 31, 3) := by decide +kernel
theorem dX12_readNews_35 : decode cX12_readNews 35 = .ok (.bipush 8, 2) := by decide +kernel
theorem dX12_readNews_37 : decode cX12_readNews 37 = .ok (.iaload, 1) := by decide +kernel
theorem dX12_readNews_38 : decode cX12_readNews 38 = .ok (.iadd, 1) := by decide +kernel
theorem dX12_readNews_39 : decode cX12_readNews 39 = .ok (.iload_n 1, 1) := by decide +kernel
theorem dX12_readNews_40 : decode cX12_readNews 40 = .ok (.ifCond .eq 7, 3) := by decide +kernel
theorem dX12_readNews_43 : decode cX12_readNews 43 = .ok (.iload_n 2, 1) := by decide +kernel
theorem dX12_readNews_44 : decode cX12_readNews 44 = .ok (.goto 5, 3) := by decide +kernel
theorem dX12_readNews_47 : decode cX12_readNews 47 = .ok (.iload_n 2, 1) := by decide +kernel
theorem dX12_readNews_48 : decode cX12_readNews 48 = .ok (.ineg, 1) := by decide +kernel
theorem dX12_readNews_49 : decode cX12_readNews 49 = .ok (.iastore, 1) := by decide +kernel
theorem dX12_readNews_50 : decode cX12_readNews 50 = .ok (.aload_n 0, 1) := by decide +kernel
theorem dX12_readNews_51 : decode cX12_readNews 51 = .ok (.getfield 31, 3) := by decide +kernel
theorem dX12_readNews_54 : decode cX12_readNews 54 = .ok (.bipush 8, 2) := by decide +kernel
theorem dX12_readNews_56 : decode cX12_readNews 56 = .ok (.dup2, 1) := by decide +kernel
theorem dX12_readNews_57 : decode cX12_readNews 57 = .ok (.iaload, 1) := by decide +kernel
theorem dX12_readNews_58 : decode cX12_readNews 58 = .ok (.iconst 1, 1) := by decide +kernel
theorem dX12_readNews_59 : decode cX12_readNews 59 = .ok (.iadd, 1) := by decide +kernel
theorem dX12_readNews_60 : decode cX12_readNews 60 = .ok (.iastore, 1) := by decide +kernel
theorem dX12_readNews_61 : decode cX12_readNews 61 = .ok (.return_, 1) := by decide +kernel
theorem dX12_readPlan_0 : decode cX12_readPlan 0 = .ok (.bipush 71, 2) := by decide +kernel
theorem dX12_readPlan_2 : decode cX12_readPlan 2 = .ok (.bipush 6, 2) := by decide +kernel
theorem dX12_readPlan_4 : decode cX12_readPlan 4 = .ok (.aload_n 0, 1) := by decide +kernel
theorem dX12_readPlan_5 : decode cX12_readPlan 5 = .ok (.getfield 31, 3) := by decide +kernel
theorem dX12_readPlan_8 : decode cX12_readPlan 8 = .ok (.bipush 7, 2) := by decide +kernel
theorem dX12_readPlan_10 : decode cX12_readPlan 10 = .ok (.iaload, 1) := by decide +kernel
theorem dX12_readPlan_11 : decode cX12_readPlan 11 = .ok (.imul, 1) := by decide +kernel
theorem dX12_readPlan_12 : decode cX12_readPlan 12 = .ok (.iadd, 1) := by decide +kernel
theorem dX12_readPlan_13 : decode cX12_readPlan 13 = .ok (.istore_n 1, 1) := by decide +kernel
theorem dX12_readPlan_14 : decode cX12_readPlan 14 = .ok (.iconst 0, 1) := by decide +kernel
theorem dX12_readPlan_15 : decode cX12_readPlan 15 = .ok (.istore_n 2, 1) := by decide +kernel
theorem dX12_readPlan_16 : decode cX12_readPlan 16 = .ok (.iload_n 2, 1) := by decide +kernel
theorem dX12_readPlan_17 : decode cX12_readPlan 17 = .ok (.iconst 5, 1) := by decide +kernel
theorem dX12_readPlan_18 : decode cX12_readPlan 18 = .ok (.if_icmp .ne 37, 3) := by decide +kernel
theorem dX12_readPlan_21 : decode cX12_readPlan 21 = .ok (.aload_n 0, 1) := by decide +kernel
theorem dX12_readPlan_22 : decode cX12_readPlan 22 = .ok (.invokevirtual 135, 3) := by decide +kernel
theorem dX12_readPlan_25 : decode cX12_readPlan 25 = .ok (.ifCond .eq 30, 3) := by decide +kernel
theorem dX12_readPlan_28 : decode cX12_readPlan 28 = .ok (.aload_n 0, 1) := by decide +kernel
theorem dX12_readPlan_29 : decode cX12_readPlan 29 = .ok (.getfield 112, 3) := by decide +kernel
theorem dX12_readPlan_32 : decode cX12_readPlan 32 = .ok (.iconst 2, 1) := by decide +kernel
theorem dX12_readPlan_33 : decode cX12_readPlan 33 = .ok (.if_icmp .ne 22, 3) := by decide +kernel
theorem dX12_readPlan_36 : decode cX12_readPlan 36 = .ok (.aload_n 0, 1) := by decide +kernel
theorem dX12_readPlan_37 : decode cX12_readPlan 37 = .ok (.getfield 123, 3) := by decide +kernel
theorem dX12_readPlan_40 : decode cX12_readPlan 40 = .ok (.aload_n 0, 1) := by decide +kernel
theorem dX12_readPlan_41 : decode cX12_readPlan 41 = .ok (.getfield 31, 3) := by decide +kernel
theorem dX12_readPlan_44 : decode cX12_readPlan 44 = .ok (.bipush 6, 2) := by decide +kernel
theorem dX12_readPlan_46 : decode cX12_readPlan 46 = .ok (.iaload, 1) := by decide +kernel
theorem dX12_readPlan_47 : decode cX12_readPlan 47 = .ok (.if_icmp .ge 8, 3) := by decide +kernel
theorem dX12_readPlan_50 : decode cX12_readPlan 50 = .ok (.aload_n 0, 1) := by decide +kernel
theorem dX12_readPlan_51 : decode cX12_readPlan 51 = .ok (.iconst 3, 1) := by decide +kernel
theorem dX12_readPlan_52 : decode cX12_readPlan 52 = .ok (.invokevirtual 157, 3) := by decide +kernel
theorem dX12_readPlan_55 : decode cX12_readPlan 55 = .ok (.aload_n 0, 1) := by decide +kernel
theorem dX12_readPlan_56 : decode cX12_readPlan 56 = .ok (.iconst 0, 1) := by decide +kernel
theorem dX12_readPlan_57 : decode cX12_readPlan 57 = .ok (.aload_n 0, 1) := by decide +kernel
theorem dX12_readPlan_58 : decode cX12_readPlan 58 = .ok (.getfield 31, 3) := by decide +kernel
theorem dX12_readPlan_61 : decode cX12_readPlan 61 = .ok (.bipush 6, 2) := by decide +kernel
theorem dX12_readPlan_63 : decode cX12_readPlan 63 = .ok (.iaload, 1) := by decide +kernel
theorem dX12_readPlan_64 : decode cX12_readPlan 64 = .ok (.iconst 1, 1) := by decide +kernel
theorem dX12_readPlan_65 : decode cX12_readPlan 65 = .ok (.isub, 1) := by decide +kernel
theorem dX12_readPlan_66 : decode cX12_readPlan 66 = .ok (.invokevirtual 165, 3) := by decide +kernel
theorem dX12_readPlan_69 : decode cX12_readPlan 69 = .ok (.istore_n 3, 1) := by decide +kernel
theorem dX12_readPlan_70 : decode cX12_readPlan 70 = .ok (.aload_n 0, 1) := by decide +kernel
theorem dX12_readPlan_71 : decode cX12_readPlan 71 = .ok (.invokevirtual 135, 3) := by decide +kernel
theorem dX12_readPlan_74 : decode cX12_readPlan 74 = .ok (.ifCond .ne 4, 3) := by decide +kernel
theorem dX12_readPlan_77 : decode cX12_readPlan 77 = .ok (.return_, 1) := by decide +kernel
theorem dX12_readPlan_78 : decode cX12_readPlan 78 = .ok (.aload_n 0, 1) := by decide +kernel
theorem dX12_readPlan_79 : decode cX12_readPlan 79 = .ok (.getfield 31, 3) := by decide +kernel
theorem dX12_readPlan_82 : decode cX12_readPlan 82 = .ok (.iload_n 1, 1) := by decide +kernel
theorem dX12_readPlan_83 : decode cX12_readPlan 83 = .ok (.iconst 1, 1) := by decide +kernel
theorem dX12_readPlan_84 : decode cX12_readPlan 84 = .ok (.iadd, 1) := by decide +kernel
theorem dX12_readPlan_85 : decode cX12_readPlan 85 = .ok (.iload_n 2, 1) := by decide +kernel
theorem dX12_readPlan_86 : decode cX12_readPlan 86 = .ok (.iadd, 1) := by decide +kernel
theorem dX12_readPlan_87 : decode cX12_readPlan 87 = .ok (.iload_n 3, 1) := by decide +kernel
theorem dX12_readPlan_88 : decode cX12_readPlan 88 = .ok (.iastore, 1) := by decide +kernel
theorem dX12_readPlan_89 : decode cX12_readPlan 89 = .ok (.iinc 2 1, 3) := by decide +kernel
theorem dX12_readPlan_92 : decode cX12_readPlan 92 = .ok (.aload_n 0, 1) := by decide +kernel
theorem dX12_readPlan_93 : decode cX12_readPlan 93 = .ok (.getfield 112, 3) := by decide +kernel
theorem dX12_readPlan_96 : decode cX12_readPlan 96 = .ok (.iconst 3, 1) := by decide +kernel
theorem dX12_readPlan_97 : decode cX12_readPlan 97 = .ok (.if_icmp .ne (-81), 3) := by decide +kernel
theorem dX12_readPlan_100 : decode cX12_readPlan 100 = .ok (.aload_n 0, 1) := by decide +kernel
theorem dX12_readPlan_101 : decode cX12_readPlan 101 = .ok (.getfield 31, 3) := by decide +kernel
theorem dX12_readPlan_104 : decode cX12_readPlan 104 = .ok (.iload_n 1, 1) := by decide +kernel
theorem dX12_readPlan_105 : decode cX12_readPlan 105 = .ok (.iload_n 2, 1) := by decide +kernel
theorem dX12_readPlan_106 : decode cX12_readPlan 106 = .ok (.iastore, 1) := by decide +kernel
theorem dX12_readPlan_107 : decode cX12_readPlan 107 = .ok (.aload_n 0, 1) := by decide +kernel
theorem dX12_readPlan_108 : decode cX12_readPlan 108 = .ok (.getfield 31, 3) := by decide +kernel
theorem dX12_readPlan_111 : decode cX12_readPlan 111 = .ok (.bipush 7, 2) := by decide +kernel
theorem dX12_readPlan_113 : decode cX12_readPlan 113 = .ok (.dup2, 1) := by decide +kernel
theorem dX12_readPlan_114 : decode cX12_readPlan 114 = .ok (.iaload, 1) := by decide +kernel
theorem dX12_readPlan_115 : decode cX12_readPlan 115 = .ok (.iconst 1, 1) := by decide +kernel
theorem dX12_readPlan_116 : decode cX12_readPlan 116 = .ok (.iadd, 1) := by decide +kernel
theorem dX12_readPlan_117 : decode cX12_readPlan 117 = .ok (.iastore, 1) := by decide +kernel
theorem dX12_readPlan_118 : decode cX12_readPlan 118 = .ok (.return_, 1) := by decide +kernel
theorem dX12_readTells_0 : decode cX12_readTells 0 = .ok (.aload_n 0, 1) := by decide +kernel
theorem dX12_readTells_1 : decode cX12_readTells 1 = .ok (.iconst 0, 1) := by decide +kernel
theorem dX12_readTells_2 : decode cX12_readTells 2 = .ok (.aload_n 0, 1) := by decide +kernel
theorem dX12_readTells_3 : decode cX12_readTells 3 = .ok (.getfield 31, 3) := by decide +kernel
theorem dX12_readTells_6 : decode cX12_readTells 6 = .ok (.iconst 5, 1) := by decide +kernel
theorem dX12_readTells_7 : decode cX12_readTells 7 = .ok (.iaload, 1) := by decide +kernel
theorem dX12_readTells_8 : decode cX12_readTells 8 = .ok (.iconst 1, 1) := by decide +kernel
theorem dX12_readTells_9 : decode cX12_readTells 9 = .ok (.isub, 1) := by decide +kernel
theorem dX12_readTells_10 : decode cX12_readTells 10 = .ok (.invokevirtual 165, 3) := by decide +kernel
theorem dX12_readTells_13 : decode cX12_readTells 13 = .ok (.istore_n 1, 1) := by decide +kernel
theorem dX12_readTells_14 : decode cX12_readTells 14 = .ok (.aload_n 0, 1) := by decide +kernel
theorem dX12_readTells_15 : decode cX12_readTells 15 = .ok (.invokevirtual 135, 3) := by decide +kernel
theorem dX12_readTells_18 : decode cX12_readTells 18 = .ok (.ifCond .eq 24, 3) := by decide +kernel
theorem dX12_readTells_21 : decode cX12_readTells 21 = .ok (.aload_n 0, 1) := by decide +kernel
theorem dX12_readTells_22 : decode cX12_readTells 22 = .ok (.getfield 112, 3) := by decide +kernel
theorem dX12_readTells_25 : decode cX12_readTells 25 = .ok (.iconst 2, 1) := by decide +kernel
theorem dX12_readTells_26 : decode cX12_readTells 26 = .ok (.if_icmp .ne 16, 3) := by decide +kernel
theorem dX12_readTells_29 : decode cX12_readTells 29 = .ok (.aload_n 0, 1) := by decide +kernel
theorem dX12_readTells_30 : decode cX12_readTells 30 = .ok (.getfield 123, 3) := by decide +kernel
theorem dX12_readTells_33 : decode cX12_readTells 33 = .ok (.iload_n 1, 1) := by decide +kernel
theorem dX12_readTells_34 : decode cX12_readTells 34 = .ok (.if_icmp .ne 8, 3) := by decide +kernel
theorem dX12_readTells_37 : decode cX12_readTells 37 = .ok (.aload_n 0, 1) := by decide +kernel
theorem dX12_readTells_38 : decode cX12_readTells 38 = .ok (.iconst 2, 1) := by decide +kernel
theorem dX12_readTells_39 : decode cX12_readTells 39 = .ok (.invokevirtual 157, 3) := by decide +kernel
theorem dX12_readTells_42 : decode cX12_readTells 42 = .ok (.aload_n 0, 1) := by decide +kernel
theorem dX12_readTells_43 : decode cX12_readTells 43 = .ok (.iconst 0, 1) := by decide +kernel
theorem dX12_readTells_44 : decode cX12_readTells 44 = .ok (.aload_n 0, 1) := by decide +kernel
theorem dX12_readTells_45 : decode cX12_readTells 45 = .ok (.getfield 31, 3) := by decide +kernel
theorem dX12_readTells_48 : decode cX12_readTells 48 = .ok (.iconst 5, 1) := by decide +kernel
theorem dX12_readTells_49 : decode cX12_readTells 49 = .ok (.iaload, 1) := by decide +kernel
theorem dX12_readTells_50 : decode cX12_readTells 50 = .ok (.iconst 1, 1) := by decide +kernel
theorem dX12_readTells_51 : decode cX12_readTells 51 = .ok (.isub, 1) := by decide +kernel
theorem dX12_readTells_52 : decode cX12_readTells 52 = .ok (.invokevirtual 165, 3) := by decide +kernel
theorem dX12_readTells_55 : decode cX12_readTells 55 = .ok (.istore_n 2, 1) := by decide +kernel
theorem dX12_readTells_56 : decode cX12_readTells 56 = .ok (.aload_n 0, 1) := by decide +kernel
theorem dX12_readTells_57 : decode cX12_readTells 57 = .ok (.invokevirtual 135, 3) := by decide +kernel
theorem dX12_readTells_60 : decode cX12_readTells 60 = .ok (.ifCond .eq 18, 3) := by decide +kernel
theorem dX12_readTells_63 : decode cX12_readTells 63 = .ok (.aload_n 0, 1) := by decide +kernel
theorem dX12_readTells_64 : decode cX12_readTells 64 = .ok (.getfield 31, 3) := by decide +kernel
theorem dX12_readTells_67 : decode cX12_readTells 67 = .ok (.bipush 101, 2) := by decide +kernel
theorem dX12_readTells_69 : decode cX12_readTells 69 = .ok (.iload_n 1, 1) := by decide +kernel
theorem dX12_readTells_70 : decode cX12_readTells 70 = .ok (.iadd, 1) := by decide +kernel
theorem dX12_readTells_71 : decode cX12_readTells 71 = .ok (.dup2, 1) := by decide +kernel
theorem dX12_readTells_72 : decode cX12_readTells 72 = .ok (.iaload, 1) := by decide +kernel
theorem dX12_readTells_73 : decode cX12_readTells 73 = .ok (.iconst 1, 1) := by decide +kernel
theorem dX12_readTells_74 : decode cX12_readTells 74 = .ok (.iload_n 2, 1) := by decide +kernel
theorem dX12_readTells_75 : decode cX12_readTells 75 = .ok (.ishl, 1) := by decide +kernel
theorem dX12_readTells_76 : decode cX12_readTells 76 = .ok (.ior, 1) := by decide +kernel
theorem dX12_readTells_77 : decode cX12_readTells 77 = .ok (.iastore, 1) := by decide +kernel
theorem dX12_readTells_78 : decode cX12_readTells 78 = .ok (.return_, 1) := by decide +kernel
theorem dX12_readWord_0 : decode cX12_readWord 0 = .ok (.bipush 55, 2) := by decide +kernel
theorem dX12_readWord_2 : decode cX12_readWord 2 = .ok (.iconst 2, 1) := by decide +kernel
theorem dX12_readWord_3 : decode cX12_readWord 3 = .ok (.aload_n 0, 1) := by decide +kernel
theorem dX12_readWord_4 : decode cX12_readWord 4 = .ok (.getfield 31, 3) := by decide +kernel
theorem dX12_readWord_7 : decode cX12_readWord 7 = .ok (.bipush 6, 2) := by decide +kernel
theorem dX12_readWord_9 : decode cX12_readWord 9 = .ok (.iaload, 1) := by decide +kernel
theorem dX12_readWord_10 : decode cX12_readWord 10 = .ok (.imul, 1) := by decide +kernel
theorem dX12_readWord_11 : decode cX12_readWord 11 = .ok (.iadd, 1) := by decide +kernel
theorem dX12_readWord_12 : decode cX12_readWord 12 = .ok (.istore_n 1, 1) := by decide +kernel
theorem dX12_readWord_13 : decode cX12_readWord 13 = .ok (.aload_n 0, 1) := by decide +kernel
theorem dX12_readWord_14 : decode cX12_readWord 14 = .ok (.getfield 31, 3) := by decide +kernel
theorem dX12_readWord_17 : decode cX12_readWord 17 = .ok (.iload_n 1, 1) := by decide +kernel
theorem dX12_readWord_18 : decode cX12_readWord 18 = .ok (.iconst 0, 1) := by decide +kernel
theorem dX12_readWord_19 : decode cX12_readWord 19 = .ok (.iadd, 1) := by decide +kernel
theorem dX12_readWord_20 : decode cX12_readWord 20 = .ok (.aload_n 0, 1) := by decide +kernel
theorem dX12_readWord_21 : decode cX12_readWord 21 = .ok (.ldc 191, 2) := by decide +kernel
theorem dX12_readWord_23 : decode cX12_readWord 23 = .ok (.iconst 0, 1) := by decide +kernel
theorem dX12_readWord_24 : decode cX12_readWord 24 = .ok (.sipush 999, 3) := by decide +kernel
theorem dX12_readWord_27 : decode cX12_readWord 27 = .ok (.invokevirtual 172, 3) := by decide +kernel
theorem dX12_readWord_30 : decode cX12_readWord 30 = .ok (.iastore, 1) := by decide +kernel
theorem dX12_readWord_31 : decode cX12_readWord 31 = .ok (.aload_n 0, 1) := by decide +kernel
theorem dX12_readWord_32 : decode cX12_readWord 32 = .ok (.ldc 193, 2) := by decide +kernel
theorem dX12_readWord_34 : decode cX12_readWord 34 = .ok (.invokevirtual 161, 3) := by decide +kernel
theorem dX12_readWord_37 : decode cX12_readWord 37 = .ok (.iconst 0, 1) := by decide +kernel
theorem dX12_readWord_38 : decode cX12_readWord 38 = .ok (.istore_n 2, 1) := by decide +kernel
theorem dX12_readWord_39 : decode cX12_readWord 39 = .ok (.aload_n 0, 1) := by decide +kernel
theorem dX12_readWord_40 : decode cX12_readWord 40 = .ok (.invokevirtual 178, 3) := by decide +kernel
theorem dX12_readWord_43 : decode cX12_readWord 43 = .ok (.istore_n 3, 1) := by decide +kernel
theorem dX12_readWord_44 : decode cX12_readWord 44 = .ok (.aload_n 0, 1) := by decide +kernel
theorem dX12_readWord_45 : decode cX12_readWord 45 = .ok (.invokevirtual 135, 3) := by decide +kernel
theorem dX12_readWord_48 : decode cX12_readWord 48 = .ok (.ifCond .ne 4, 3) := by decide +kernel
theorem dX12_readWord_51 : decode cX12_readWord 51 = .ok (.return_, 1) := by decide +kernel
theorem dX12_readWord_52 : decode cX12_readWord 52 = .ok (.iload_n 2, 1) := by decide +kernel
theorem dX12_readWord_53 : decode cX12_readWord 53 = .ok (.iconst 1, 1) := by decide +kernel
theorem dX12_readWord_54 : decode cX12_readWord 54 = .ok (.iload_n 3, 1) := by decide +kernel
theorem dX12_readWord_55 : decode cX12_readWord 55 = .ok (.ishl, 1) := by decide +kernel
theorem dX12_readWord_56 : decode cX12_readWord 56 = .ok (.ior, 1) := by decide +kernel
theorem dX12_readWord_57 : decode cX12_readWord 57 = .ok (.istore_n 2, 1) := by decide +kernel
theorem dX12_readWord_58 : decode cX12_readWord 58 = .ok (.aload_n 0, 1) := by decide +kernel
theorem dX12_readWord_59 : decode cX12_readWord 59 = .ok (.getfield 112, 3) := by decide +kernel
theorem dX12_readWord_62 : decode cX12_readWord 62 = .ok (.iconst 3, 1) := by decide +kernel
theorem dX12_readWord_63 : decode cX12_readWord 63 = .ok (.if_icmp .ne (-24), 3) := by decide +kernel
theorem dX12_readWord_66 : decode cX12_readWord 66 = .ok (.aload_n 0, 1) := by decide +kernel
theorem dX12_readWord_67 : decode cX12_readWord 67 = .ok (.getfield 31, 3) := by decide +kernel
theorem dX12_readWord_70 : decode cX12_readWord 70 = .ok (.iload_n 1, 1) := by decide +kernel
theorem dX12_readWord_71 : decode cX12_readWord 71 = .ok (.iconst 1, 1) := by decide +kernel
theorem dX12_readWord_72 : decode cX12_readWord 72 = .ok (.iadd, 1) := by decide +kernel
theorem dX12_readWord_73 : decode cX12_readWord 73 = .ok (.iload_n 2, 1) := by decide +kernel
theorem dX12_readWord_74 : decode cX12_readWord 74 = .ok (.iastore, 1) := by decide +kernel
theorem dX12_readWord_75 : decode cX12_readWord 75 = .ok (.aload_n 0, 1) := by decide +kernel
theorem dX12_readWord_76 : decode cX12_readWord 76 = .ok (.getfield 31, 3) := by decide +kernel
theorem dX12_readWord_79 : decode cX12_readWord 79 = .ok (.bipush 6, 2) := by decide +kernel
theorem dX12_readWord_81 : decode cX12_readWord 81 = .ok (.dup2, 1) := by decide +kernel
theorem dX12_readWord_82 : decode cX12_readWord 82 = .ok (.iaload, 1) := by decide +kernel
theorem dX12_readWord_83 : decode cX12_readWord 83 = .ok (.iconst 1, 1) := by decide +kernel
theorem dX12_readWord_84 : decode cX12_readWord 84 = .ok (.iadd, 1) := by decide +kernel
theorem dX12_readWord_85 : decode cX12_readWord 85 = .ok (.iastore, 1) := by decide +kernel
theorem dX12_readWord_86 : decode cX12_readWord 86 = .ok (.return_, 1) := by decide +kernel
theorem gn_f {Q : Prop} (e : Nat → Int32) (h : ∀ f, e = f → Q) : Q := h e rfl
theorem uklo {f g : Nat → Int32} {x v : Int32} {j : Nat} (E : upd f x.toNatClampNeg v = g) (h : (11 : Int) ≤ x.toInt) (hj : j < 11) : (g j).toInt = (f j).toInt := by
  have c9 := cln (x := x) (by omega)
  rw [← E, uo (by omega)]
theorem msr {a t a' t' : Int} {n : Nat} (h : (5 * (900 - a) + t).toNat < n + 1) (h1 : 5 * a - t < 5 * a' - t') (h2 : a' ≤ 900) (h3 : 0 ≤ t') : (5 * (900 - a') + t').toNat < n := by omega
def plw (f : Nat → Int32) (q : Nat) (n : Int) : Prop := ∀ i : Nat, i < 5 → (i : Int) < n → 0 ≤ (f (72 + 6 * q + i)).toInt ∧ (f (72 + 6 * q + i)).toInt < (f 6).toInt
theorem pl_s {f : Nat → Int32} {q : Nat} {n m x v : Int32} (h : plw f q n.toInt) (h0 : 0 ≤ n.toInt) (hm : m.toInt = n.toInt + 1) (hx : x.toInt = 72 + 6 * q + n.toInt) (hv : 0 ≤ v.toInt ∧ v.toInt < (f 6).toInt) : plw (upd f x.toNatClampNeg v) q m.toInt := fun i hi hl => by
  have cx := cln (x := x) (by omega)
  rw [uo (j := 6) (by omega)]
  by_cases e : (i : Int) = n.toInt
  · rw [show 72 + 6 * q + i = x.toNatClampNeg by omega, pk_us]; exact hv
  · rw [uo (by omega)]; exact h i hi (by omega)
theorem wx_p {f : Nat → Int32} (h : wok f) {q : Nat} {x n v : Int32} (hq : q < 4) (h0 : 0 ≤ n.toInt) (h4 : n.toInt ≤ 4) (hx : x.toInt = 72 + 6 * q + n.toInt) (hv : 0 ≤ v.toInt ∧ v.toInt < (f 6).toInt) : wok (upd f x.toNatClampNeg v) := by
  rw [ixe (x := x) (n := 72 + 6 * q + n.toInt.toNat) (by omega)]
  exact wk_up h hq (by omega) hv
theorem wx_l {f : Nat → Int32} (h : wok f) {q : Nat} {x v : Int32} (hq : q < 4) (hx : x.toInt = 71 + 6 * q) (hv : 0 ≤ v.toInt ∧ v.toInt ≤ 5) (hp : plw f q v.toInt) : wok (upd f x.toNatClampNeg v) := by
  rw [ixe (x := x) (n := 71 + 6 * q) (by omega)]
  exact wk_ul h hq hv (fun i hi hl => hp i hi hl)
