theorem b_1187 : Cond.methodLink RX12 231 yX12_readLine ∈ BIG := bi (tin_6 _ (List.mem_of_getElem? (i := 235) rfl)) rfl
theorem b_1188 : Cond.code yX12_readLine cX12_readLine 1 none ∈ BIG := bi (tin_6 _ (List.mem_of_getElem? (i := 238) rfl)) rfl
theorem b_1189 : Cond.instanceMethod yX12_readLine ∈ BIG := bi (tin_6 _ (List.mem_of_getElem? (i := 237) rfl)) rfl
theorem b_1190 : Cond.selects RX12 yX12_readLine yX12_readLine ∈ BIG := bi (sin_7 _ (List.mem_map.mpr ⟨(yX12_readLine, 29), List.mem_of_getElem? (i := 8) rfl, rfl⟩)) rfl
theorem m_yX12_readLine : MV yX12_readLine cX12_readLine 1 none 0 := ⟨b_1188, b_1189, b_1190, b_810, by decide +kernel⟩
theorem dX12_desk_0 : decode cX12_desk 0 = .ok (.aload_n 0, 1) := by decide +kernel
theorem dX12_desk_1 : decode cX12_desk 1 = .ok (.aload_n 0, 1) := by decide +kernel
theorem dX12_desk_2 : decode cX12_desk 2 = .ok (.getfield 97, 3) := by decide +kernel
theorem dX12_desk_5 : decode cX12_desk 5 = .ok (.putfield 100, 3) := by decide +kernel
theorem dX12_desk_8 : decode cX12_desk 8 = .ok (.aload_n 0, 1) := by decide +kernel
theorem dX12_desk_9 : decode cX12_desk 9 = .ok (.iconst 0, 1) := by decide +kernel
theorem dX12_desk_10 : decode cX12_desk 10 = .ok (.putfield 97, 3) := by decide +kernel
theorem dX12_desk_13 : decode cX12_desk 13 = .ok (.aload_n 0, 1) := by decide +kernel
theorem dX12_desk_14 : decode cX12_desk 14 = .ok (.iconst 0, 1) := by decide +kernel
theorem dX12_desk_15 : decode cX12_desk 15 = .ok (.putfield 103, 3) := by decide +kernel
theorem dX12_desk_18 : decode cX12_desk 18 = .ok (.aload_n 0, 1) := by decide +kernel
theorem dX12_desk_19 : decode cX12_desk 19 = .ok (.iconst 0, 1) := by decide +kernel
theorem dX12_desk_20 : decode cX12_desk 20 = .ok (.putfield 132, 3) := by decide +kernel
theorem dX12_desk_23 : decode cX12_desk 23 = .ok (.aload_n 0, 1) := by decide +kernel
theorem dX12_desk_24 : decode cX12_desk 24 = .ok (.iconst (-1), 1) := by decide +kernel
theorem dX12_desk_25 : decode cX12_desk 25 = .ok (.putfield 27, 3) := by decide +kernel
theorem dX12_desk_28 : decode cX12_desk 28 = .ok (.iconst 0, 1) := by decide +kernel
theorem dX12_desk_29 : decode cX12_desk 29 = .ok (.istore_n 1, 1) := by decide +kernel
theorem dX12_desk_30 : decode cX12_desk 30 = .ok (.iload_n 1, 1) := by decide +kernel
theorem dX12_desk_31 : decode cX12_desk 31 = .ok (.sipush 225, 3) := by decide +kernel
theorem dX12_desk_34 : decode cX12_desk 34 = .ok (.if_icmp .ge 16, 3) := by decide +kernel
theorem dX12_desk_37 : decode cX12_desk 37 = .ok (.aload_n 0, 1) := by decide +kernel
theorem dX12_desk_38 : decode cX12_desk 38 = .ok (.getfield 31, 3) := by decide +kernel
theorem dX12_desk_41 : decode cX12_desk 41 = .ok (.iload_n 1, 1) := by decide +kernel
theorem dX12_desk_42 : decode cX12_desk 42 = .ok (.iconst 0, 1) := by decide +kernel
theorem dX12_desk_43 : decode cX12_desk 43 = .ok (.iastore, 1) := by decide +kernel
theorem dX12_desk_44 : decode cX12_desk 44 = .ok (.iinc 1 1, 3) := by decide +kernel
theorem dX12_desk_47 : decode cX12_desk 47 = .ok (.goto (-17), 3) := by decide +kernel
theorem dX12_desk_50 : decode cX12_desk 50 = .ok (.aload_n 0, 1) := by decide +kernel
theorem dX12_desk_51 : decode cX12_desk 51 = .ok (.invokevirtual 151, 3) := by decide +kernel
theorem dX12_desk_54 : decode cX12_desk 54 = .ok (.aload_n 0, 1) := by decide +kernel
theorem dX12_desk_55 : decode cX12_desk 55 = .ok (.invokevirtual 135, 3) := by decide +kernel
theorem dX12_desk_58 : decode cX12_desk 58 = .ok (.ifCond .eq 17, 3) := by decide +kernel
theorem dX12_desk_61 : decode cX12_desk 61 = .ok (.aload_n 0, 1) := by decide +kernel
theorem dX12_desk_62 : decode cX12_desk 62 = .ok (.getfield 112, 3) := by decide +kernel
theorem dX12_desk_65 : decode cX12_desk 65 = .ok (.ifCond .eq 10, 3) := by decide +kernel
theorem dX12_desk_68 : decode cX12_desk 68 = .ok (.aload_n 0, 1) := by decide +kernel
theorem dX12_desk_69 : decode cX12_desk 69 = .ok (.invokevirtual 231, 3) := by decide +kernel
theorem dX12_desk_72 : decode cX12_desk 72 = .ok (.goto (-18), 3) := by decide +kernel
theorem dX12_desk_75 : decode cX12_desk 75 = .ok (.aload_n 0, 1) := by decide +kernel
theorem dX12_desk_76 : decode cX12_desk 76 = .ok (.invokevirtual 135, 3) := by decide +kernel
theorem dX12_desk_79 : decode cX12_desk 79 = .ok (.ifCond .ne 6, 3) := by decide +kernel
theorem dX12_desk_82 : decode cX12_desk 82 = .ok (.bipush (-4), 2) := by decide +kernel
theorem dX12_desk_84 : decode cX12_desk 84 = .ok (.ireturn, 1) := by decide +kernel
theorem dX12_desk_85 : decode cX12_desk 85 = .ok (.iconst 0, 1) := by decide +kernel
theorem dX12_desk_86 : decode cX12_desk 86 = .ok (.istore_n 1, 1) := by decide +kernel
theorem dX12_desk_87 : decode cX12_desk 87 = .ok (.iload_n 1, 1) := by decide +kernel
theorem dX12_desk_88 : decode cX12_desk 88 = .ok (.sipush 225, 3) := by decide +kernel
theorem dX12_desk_91 : decode cX12_desk 91 = .ok (.if_icmp .ge 21, 3) := by decide +kernel
theorem dX12_desk_94 : decode cX12_desk 94 = .ok (.aload_n 0, 1) := by decide +kernel
theorem dX12_desk_95 : decode cX12_desk 95 = .ok (.getfield 9, 3) := by decide +kernel
theorem dX12_desk_98 : decode cX12_desk 98 = .ok (.iload_n 1, 1) := by decide +kernel
theorem dX12_desk_99 : decode cX12_desk 99 = .ok (.aload_n 0, 1) := by decide +kernel
theorem dX12_desk_100 : decode cX12_desk 100 = .ok (.getfield 31, 3) := by decide +kernel
theorem dX12_desk_103 : decode cX12_desk 103 = .ok (.iload_n 1, 1) := by decide +kernel
theorem dX12_desk_104 : decode cX12_desk 104 = .ok (.iaload, 1) := by decide +kernel
theorem dX12_desk_105 : decode cX12_desk 105 = .ok (.iastore, 1) := by decide +kernel
theorem dX12_desk_106 : decode cX12_desk 106 = .ok (.iinc 1 1, 3) := by decide +kernel
theorem dX12_desk_109 : decode cX12_desk 109 = .ok (.goto (-22), 3) := by decide +kernel
theorem dX12_desk_112 : decode cX12_desk 112 = .ok (.aload_n 0, 1) := by decide +kernel
theorem dX12_desk_113 : decode cX12_desk 113 = .ok (.getfield 9, 3) := by decide +kernel
theorem dX12_desk_116 : decode cX12_desk 116 = .ok (.bipush 9, 2) := by decide +kernel
theorem dX12_desk_118 : decode cX12_desk 118 = .ok (.iaload, 1) := by decide +kernel
theorem dX12_desk_119 : decode cX12_desk 119 = .ok (.ireturn, 1) := by decide +kernel
