theorem b_1159 : Cond.methodLink RX12 222 yX12_readTells ∈ BIG := bi (tin_7 _ (List.mem_of_getElem? (i := 71) rfl)) rfl
theorem b_1160 : Cond.methodLink RX12 219 yX12_readNews ∈ BIG := bi (tin_7 _ (List.mem_of_getElem? (i := 65) rfl)) rfl
theorem b_1161 : Cond.methodLink RX12 216 yX12_readPlan ∈ BIG := bi (tin_7 _ (List.mem_of_getElem? (i := 61) rfl)) rfl
theorem b_1162 : Cond.methodLink RX12 213 yX12_readWord ∈ BIG := bi (tin_7 _ (List.mem_of_getElem? (i := 55) rfl)) rfl
theorem b_1163 : Cond.methodLink RX12 210 yX12_readHearer ∈ BIG := bi (tin_7 _ (List.mem_of_getElem? (i := 49) rfl)) rfl
theorem b_1164 : Cond.methodLink RX12 228 yX12_readNext ∈ BIG := bi (tin_7 _ (List.mem_of_getElem? (i := 39) rfl)) rfl
theorem b_1165 : Cond.methodLink RX12 225 yX12_readFirst ∈ BIG := bi (tin_6 _ (List.mem_of_getElem? (i := 239) rfl)) rfl
theorem b_1166 : Cond.code yX12_readFirst cX12_readFirst 1 none ∈ BIG := bi (tin_7 _ (List.mem_of_getElem? (i := 2) rfl)) rfl
theorem b_1167 : Cond.instanceMethod yX12_readFirst ∈ BIG := bi (tin_7 _ (List.mem_of_getElem? (i := 1) rfl)) rfl
theorem b_1168 : Cond.selects RX12 yX12_readFirst yX12_readFirst ∈ BIG := bi (sin_7 _ (List.mem_map.mpr ⟨(yX12_readFirst, 29), List.mem_of_getElem? (i := 9) rfl, rfl⟩)) rfl
theorem b_1169 : Cond.code yX12_readHearer cX12_readHearer 4 none ∈ BIG := bi (tin_7 _ (List.mem_of_getElem? (i := 52) rfl)) rfl
theorem b_1170 : Cond.instanceMethod yX12_readHearer ∈ BIG := bi (tin_7 _ (List.mem_of_getElem? (i := 51) rfl)) rfl
theorem b_1171 : Cond.selects RX12 yX12_readHearer yX12_readHearer ∈ BIG := bi (sin_8 _ (List.mem_map.mpr ⟨(yX12_readHearer, 29), List.mem_of_getElem? (i := 2) rfl, rfl⟩)) rfl
theorem b_1172 : Cond.code yX12_readNews cX12_readNews 3 none ∈ BIG := bi (tin_7 _ (List.mem_of_getElem? (i := 68) rfl)) rfl
theorem b_1173 : Cond.instanceMethod yX12_readNews ∈ BIG := bi (tin_7 _ (List.mem_of_getElem? (i := 67) rfl)) rfl
theorem b_1174 : Cond.selects RX12 yX12_readNews yX12_readNews ∈ BIG := bi (sin_8 _ (List.mem_map.mpr ⟨(yX12_readNews, 29), List.mem_of_getElem? (i := 5) rfl, rfl⟩)) rfl
theorem b_1175 : Cond.code yX12_readNext cX12_readNext 3 none ∈ BIG := bi (tin_7 _ (List.mem_of_getElem? (i := 42) rfl)) rfl
theorem b_1176 : Cond.instanceMethod yX12_readNext ∈ BIG := bi (tin_7 _ (List.mem_of_getElem? (i := 41) rfl)) rfl
theorem b_1177 : Cond.selects RX12 yX12_readNext yX12_readNext ∈ BIG := bi (sin_8 _ (List.mem_map.mpr ⟨(yX12_readNext, 29), List.mem_of_getElem? (i := 1) rfl, rfl⟩)) rfl
theorem b_1178 : Cond.code yX12_readPlan cX12_readPlan 4 none ∈ BIG := bi (tin_7 _ (List.mem_of_getElem? (i := 64) rfl)) rfl
theorem b_1179 : Cond.instanceMethod yX12_readPlan ∈ BIG := bi (tin_7 _ (List.mem_of_getElem? (i := 63) rfl)) rfl
theorem b_1180 : Cond.selects RX12 yX12_readPlan yX12_readPlan ∈ BIG := bi (sin_8 _ (List.mem_map.mpr ⟨(yX12_readPlan, 29), List.mem_of_getElem? (i := 4) rfl, rfl⟩)) rfl
theorem b_1181 : Cond.code yX12_readTells cX12_readTells 3 none ∈ BIG := bi (tin_7 _ (List.mem_of_getElem? (i := 74) rfl)) rfl
theorem b_1182 : Cond.instanceMethod yX12_readTells ∈ BIG := bi (tin_7 _ (List.mem_of_getElem? (i := 73) rfl)) rfl
theorem b_1183 : Cond.selects RX12 yX12_readTells yX12_readTells ∈ BIG := bi (sin_8 _ (List.mem_map.mpr ⟨(yX12_readTells, 29), List.mem_of_getElem? (i := 6) rfl, rfl⟩)) rfl
theorem b_1184 : Cond.code yX12_readWord cX12_readWord 4 none ∈ BIG := bi (tin_7 _ (List.mem_of_getElem? (i := 58) rfl)) rfl
theorem b_1185 : Cond.instanceMethod yX12_readWord ∈ BIG := bi (tin_7 _ (List.mem_of_getElem? (i := 57) rfl)) rfl
theorem b_1186 : Cond.selects RX12 yX12_readWord yX12_readWord ∈ BIG := bi (sin_8 _ (List.mem_map.mpr ⟨(yX12_readWord, 29), List.mem_of_getElem? (i := 3) rfl, rfl⟩)) rfl
theorem m_yX12_readFirst : MV yX12_readFirst cX12_readFirst 1 none 0 := ⟨b_1166, b_1167, b_1168, b_810, by decide +kernel⟩
theorem m_yX12_readHearer : MV yX12_readHearer cX12_readHearer 4 none 0 := ⟨b_1169, b_1170, b_1171, b_810, by decide +kernel⟩
theorem m_yX12_readNews : MV yX12_readNews cX12_readNews 3 none 0 := ⟨b_1172, b_1173, b_1174, b_810, by decide +kernel⟩
theorem m_yX12_readNext : MV yX12_readNext cX12_readNext 3 none 0 := ⟨b_1175, b_1176, b_1177, b_810, by decide +kernel⟩
theorem m_yX12_readPlan : MV yX12_readPlan cX12_readPlan 4 none 0 := ⟨b_1178, b_1179, b_1180, b_810, by decide +kernel⟩
theorem m_yX12_readTells : MV yX12_readTells cX12_readTells 3 none 0 := ⟨b_1181, b_1182, b_1183, b_810, by decide +kernel⟩
theorem m_yX12_readWord : MV yX12_readWord cX12_readWord 4 none 0 := ⟨b_1184, b_1185, b_1186, b_810, by decide +kernel⟩
theorem dX12_readLine_0 : decode cX12_readLine 0 = .ok (.aload_n 0, 1) := by decide +kernel
theorem dX12_readLine_1 : decode cX12_readLine 1 = .ok (.getfield 31, 3) := by decide +kernel
theorem dX12_readLine_4 : decode cX12_readLine 4 = .ok (.bipush 9, 2) := by decide +kernel
theorem dX12_readLine_6 : decode cX12_readLine 6 = .ok (.iaload, 1) := by decide +kernel
theorem dX12_readLine_7 : decode cX12_readLine 7 = .ok (.ifCond .ne 10, 3) := by decide +kernel
theorem dX12_readLine_10 : decode cX12_readLine 10 = .ok (.aload_n 0, 1) := by decide +kernel
theorem dX12_readLine_11 : decode cX12_readLine 11 = .ok (.invokevirtual 225, 3) := by decide +kernel
theorem dX12_readLine_14 : decode cX12_readLine 14 = .ok (.goto 7, 3) := by decide +kernel
theorem dX12_readLine_17 : decode cX12_readLine 17 = .ok (.aload_n 0, 1) := by decide +kernel
theorem dX12_readLine_18 : decode cX12_readLine 18 = .ok (.invokevirtual 228, 3) := by decide +kernel
theorem dX12_readLine_21 : decode cX12_readLine 21 = .ok (.aload_n 0, 1) := by decide +kernel
theorem dX12_readLine_22 : decode cX12_readLine 22 = .ok (.invokevirtual 135, 3) := by decide +kernel
theorem dX12_readLine_25 : decode cX12_readLine 25 = .ok (.ifCond .eq 16, 3) := by decide +kernel
theorem dX12_readLine_28 : decode cX12_readLine 28 = .ok (.aload_n 0, 1) := by decide +kernel
theorem dX12_readLine_29 : decode cX12_readLine 29 = .ok (.getfield 112, 3) := by decide +kernel
theorem dX12_readLine_32 : decode cX12_readLine 32 = .ok (.iconst 3, 1) := by decide +kernel
theorem dX12_readLine_33 : decode cX12_readLine 33 = .ok (.if_icmp .eq 8, 3) := by decide +kernel
theorem dX12_readLine_36 : decode cX12_readLine 36 = .ok (.aload_n 0, 1) := by decide +kernel
theorem dX12_readLine_37 : decode cX12_readLine 37 = .ok (.iconst 1, 1) := by decide +kernel
theorem dX12_readLine_38 : decode cX12_readLine 38 = .ok (.invokevirtual 157, 3) := by decide +kernel
theorem dX12_readLine_41 : decode cX12_readLine 41 = .ok (.aload_n 0, 1) := by decide +kernel
theorem dX12_readLine_42 : decode cX12_readLine 42 = .ok (.invokevirtual 135, 3) := by decide +kernel
theorem dX12_readLine_45 : decode cX12_readLine 45 = .ok (.ifCond .eq 7, 3) := by decide +kernel
theorem dX12_readLine_48 : decode cX12_readLine 48 = .ok (.aload_n 0, 1) := by decide +kernel
theorem dX12_readLine_49 : decode cX12_readLine 49 = .ok (.invokevirtual 151, 3) := by decide +kernel
theorem dX12_readLine_52 : decode cX12_readLine 52 = .ok (.aload_n 0, 1) := by decide +kernel
theorem dX12_readLine_53 : decode cX12_readLine 53 = .ok (.getfield 31, 3) := by decide +kernel
theorem dX12_readLine_56 : decode cX12_readLine 56 = .ok (.bipush 9, 2) := by decide +kernel
theorem dX12_readLine_58 : decode cX12_readLine 58 = .ok (.dup2, 1) := by decide +kernel
theorem dX12_readLine_59 : decode cX12_readLine 59 = .ok (.iaload, 1) := by decide +kernel
theorem dX12_readLine_60 : decode cX12_readLine 60 = .ok (.iconst 1, 1) := by decide +kernel
theorem dX12_readLine_61 : decode cX12_readLine 61 = .ok (.iadd, 1) := by decide +kernel
theorem dX12_readLine_62 : decode cX12_readLine 62 = .ok (.iastore, 1) := by decide +kernel
theorem dX12_readLine_63 : decode cX12_readLine 63 = .ok (.return_, 1) := by decide +kernel
theorem dX12_readNext_0 : decode cX12_readNext 0 = .ok (.aload_n 0, 1) := by decide +kernel
theorem dX12_readNext_1 : decode cX12_readNext 1 = .ok (.ldc 198, 2) := by decide +kernel
theorem dX12_readNext_3 : decode cX12_readNext 3 = .ok (.invokevirtual 147, 3) := by decide +kernel
theorem dX12_readNext_6 : decode cX12_readNext 6 = .ok (.ifCond .ne 48, 3) := by decide +kernel
theorem dX12_readNext_9 : decode cX12_readNext 9 = .ok (.aload_n 0, 1) := by decide +kernel
theorem dX12_readNext_10 : decode cX12_readNext 10 = .ok (.ldc 200, 2) := by decide +kernel
theorem dX12_readNext_12 : decode cX12_readNext 12 = .ok (.invokevirtual 147, 3) := by decide +kernel
theorem dX12_readNext_15 : decode cX12_readNext 15 = .ok (.ifCond .ne 39, 3) := by decide +kernel
theorem dX12_readNext_18 : decode cX12_readNext 18 = .ok (.aload_n 0, 1) := by decide +kernel
theorem dX12_readNext_19 : decode cX12_readNext 19 = .ok (.ldc 202, 2) := by decide +kernel
theorem dX12_readNext_21 : decode cX12_readNext 21 = .ok (.invokevirtual 147, 3) := by decide +kernel
theorem dX12_readNext_24 : decode cX12_readNext 24 = .ok (.ifCond .ne 30, 3) := by decide +kernel
theorem dX12_readNext_27 : decode cX12_readNext 27 = .ok (.aload_n 0, 1) := by decide +kernel
theorem dX12_readNext_28 : decode cX12_readNext 28 = .ok (.ldc 204, 2) := by decide +kernel
theorem dX12_readNext_30 : decode cX12_readNext 30 = .ok (.invokevirtual 147, 3) := by decide +kernel
theorem dX12_readNext_33 : decode cX12_readNext 33 = .ok (.ifCond .ne 21, 3) := by decide +kernel
theorem dX12_readNext_36 : decode cX12_readNext 36 = .ok (.aload_n 0, 1) := by decide +kernel
theorem dX12_readNext_37 : decode cX12_readNext 37 = .ok (.ldc 206, 2) := by decide +kernel
theorem dX12_readNext_39 : decode cX12_readNext 39 = .ok (.invokevirtual 147, 3) := by decide +kernel
theorem dX12_readNext_42 : decode cX12_readNext 42 = .ok (.ifCond .ne 12, 3) := by decide +kernel
theorem dX12_readNext_45 : decode cX12_readNext 45 = .ok (.aload_n 0, 1) := by decide +kernel
theorem dX12_readNext_46 : decode cX12_readNext 46 = .ok (.ldc 208, 2) := by decide +kernel
theorem dX12_readNext_48 : decode cX12_readNext 48 = .ok (.invokevirtual 147, 3) := by decide +kernel
theorem dX12_readNext_51 : decode cX12_readNext 51 = .ok (.ifCond .eq 7, 3) := by decide +kernel
theorem dX12_readNext_54 : decode cX12_readNext 54 = .ok (.iconst 1, 1) := by decide +kernel
theorem dX12_readNext_55 : decode cX12_readNext 55 = .ok (.goto 4, 3) := by decide +kernel
theorem dX12_readNext_58 : decode cX12_readNext 58 = .ok (.iconst 0, 1) := by decide +kernel
theorem dX12_readNext_59 : decode cX12_readNext 59 = .ok (.istore_n 1, 1) := by decide +kernel
theorem dX12_readNext_60 : decode cX12_readNext 60 = .ok (.iload_n 1, 1) := by decide +kernel
theorem dX12_readNext_61 : decode cX12_readNext 61 = .ok (.ifCond .ne 8, 3) := by decide +kernel
theorem dX12_readNext_64 : decode cX12_readNext 64 = .ok (.aload_n 0, 1) := by decide +kernel
theorem dX12_readNext_65 : decode cX12_readNext 65 = .ok (.iconst 1, 1) := by decide +kernel
theorem dX12_readNext_66 : decode cX12_readNext 66 = .ok (.invokevirtual 157, 3) := by decide +kernel
theorem dX12_readNext_69 : decode cX12_readNext 69 = .ok (.aload_n 0, 1) := by decide +kernel
theorem dX12_readNext_70 : decode cX12_readNext 70 = .ok (.ldc 200, 2) := by decide +kernel
theorem dX12_readNext_72 : decode cX12_readNext 72 = .ok (.invokevirtual 147, 3) := by decide +kernel
theorem dX12_readNext_75 : decode cX12_readNext 75 = .ok (.ifCond .eq 13, 3) := by decide +kernel
theorem dX12_readNext_78 : decode cX12_readNext 78 = .ok (.aload_n 0, 1) := by decide +kernel
theorem dX12_readNext_79 : decode cX12_readNext 79 = .ok (.getfield 31, 3) := by decide +kernel
theorem dX12_readNext_82 : decode cX12_readNext 82 = .ok (.iconst 5, 1) := by decide +kernel
theorem dX12_readNext_83 : decode cX12_readNext 83 = .ok (.iaload, 1) := by decide +kernel
theorem dX12_readNext_84 : decode cX12_readNext 84 = .ok (.iconst 4, 1) := by decide +kernel
theorem dX12_readNext_85 : decode cX12_readNext 85 = .ok (.if_icmp .eq 65, 3) := by decide +kernel
theorem dX12_readNext_88 : decode cX12_readNext 88 = .ok (.aload_n 0, 1) := by decide +kernel
theorem dX12_readNext_89 : decode cX12_readNext 89 = .ok (.ldc 202, 2) := by decide +kernel
theorem dX12_readNext_91 : decode cX12_readNext 91 = .ok (.invokevirtual 147, 3) := by decide +kernel
theorem dX12_readNext_94 : decode cX12_readNext 94 = .ok (.ifCond .eq 15, 3) := by decide +kernel
theorem dX12_readNext_97 : decode cX12_readNext 97 = .ok (.aload_n 0, 1) := by decide +kernel
theorem dX12_readNext_98 : decode cX12_readNext 98 = .ok (.getfield 31, 3) := by decide +kernel
theorem dX12_readNext_101 : decode cX12_readNext 101 = .ok (.bipush 6, 2) := by decide +kernel
theorem dX12_readNext_103 : decode cX12_readNext 103 = .ok (.iaload, 1) := by decide +kernel
theorem dX12_readNext_104 : decode cX12_readNext 104 = .ok (.bipush 8, 2) := by decide +kernel
theorem dX12_readNext_106 : decode cX12_readNext 106 = .ok (.if_icmp .eq 44, 3) := by decide +kernel
theorem dX12_readNext_109 : decode cX12_readNext 109 = .ok (.aload_n 0, 1) := by decide +kernel
theorem dX12_readNext_110 : decode cX12_readNext 110 = .ok (.ldc 204, 2) := by decide +kernel
theorem dX12_readNext_112 : decode cX12_readNext 112 = .ok (.invokevirtual 147, 3) := by decide +kernel
theorem dX12_readNext_115 : decode cX12_readNext 115 = .ok (.ifCond .eq 14, 3) := by decide +kernel
theorem dX12_readNext_118 : decode cX12_readNext 118 = .ok (.aload_n 0, 1) := by decide +kernel
theorem dX12_readNext_119 : decode cX12_readNext 119 = .ok (.getfield 31, 3) := by decide +kernel
theorem dX12_readNext_122 : decode cX12_readNext 122 = .ok (.bipush 7, 2) := by decide +kernel
theorem dX12_readNext_124 : decode cX12_readNext 124 = .ok (.iaload, 1) := by decide +kernel
theorem dX12_readNext_125 : decode cX12_readNext 125 = .ok (.iconst 4, 1) := by decide +kernel
theorem dX12_readNext_126 : decode cX12_readNext 126 = .ok (.if_icmp .eq 24, 3) := by decide +kernel
theorem dX12_readNext_129 : decode cX12_readNext 129 = .ok (.aload_n 0, 1) := by decide +kernel
theorem dX12_readNext_130 : decode cX12_readNext 130 = .ok (.ldc 206, 2) := by decide +kernel
theorem dX12_readNext_132 : decode cX12_readNext 132 = .ok (.invokevirtual 147, 3) := by decide +kernel
theorem dX12_readNext_135 : decode cX12_readNext 135 = .ok (.ifCond .eq 20, 3) := by decide +kernel
theorem dX12_readNext_138 : decode cX12_readNext 138 = .ok (.aload_n 0, 1) := by decide +kernel
theorem dX12_readNext_139 : decode cX12_readNext 139 = .ok (.getfield 31, 3) := by decide +kernel
theorem dX12_readNext_142 : decode cX12_readNext 142 = .ok (.bipush 8, 2) := by decide +kernel
theorem dX12_readNext_144 : decode cX12_readNext 144 = .ok (.iaload, 1) := by decide +kernel
theorem dX12_readNext_145 : decode cX12_readNext 145 = .ok (.bipush 6, 2) := by decide +kernel
theorem dX12_readNext_147 : decode cX12_readNext 147 = .ok (.if_icmp .ne 8, 3) := by decide +kernel
theorem dX12_readNext_150 : decode cX12_readNext 150 = .ok (.aload_n 0, 1) := by decide +kernel
theorem dX12_readNext_151 : decode cX12_readNext 151 = .ok (.iconst 3, 1) := by decide +kernel
theorem dX12_readNext_152 : decode cX12_readNext 152 = .ok (.invokevirtual 157, 3) := by decide +kernel
theorem dX12_readNext_155 : decode cX12_readNext 155 = .ok (.aload_n 0, 1) := by decide +kernel
theorem dX12_readNext_156 : decode cX12_readNext 156 = .ok (.invokevirtual 135, 3) := by decide +kernel
theorem dX12_readNext_159 : decode cX12_readNext 159 = .ok (.ifCond .ne 4, 3) := by decide +kernel
theorem dX12_readNext_162 : decode cX12_readNext 162 = .ok (.return_, 1) := by decide +kernel
theorem dX12_readNext_163 : decode cX12_readNext 163 = .ok (.aload_n 0, 1) := by decide +kernel
theorem dX12_readNext_164 : decode cX12_readNext 164 = .ok (.ldc 198, 2) := by decide +kernel
theorem dX12_readNext_166 : decode cX12_readNext 166 = .ok (.invokevirtual 154, 3) := by decide +kernel
theorem dX12_readNext_169 : decode cX12_readNext 169 = .ok (.ifCond .eq 40, 3) := by decide +kernel
theorem dX12_readNext_172 : decode cX12_readNext 172 = .ok (.iconst 0, 1) := by decide +kernel
theorem dX12_readNext_173 : decode cX12_readNext 173 = .ok (.istore_n 2, 1) := by decide +kernel
theorem dX12_readNext_174 : decode cX12_readNext 174 = .ok (.iload_n 2, 1) := by decide +kernel
theorem dX12_readNext_175 : decode cX12_readNext 175 = .ok (.aload_n 0, 1) := by decide +kernel
theorem dX12_readNext_176 : decode cX12_readNext 176 = .ok (.getfield 31, 3) := by decide +kernel
theorem dX12_readNext_179 : decode cX12_readNext 179 = .ok (.iconst 0, 1) := by decide +kernel
theorem dX12_readNext_180 : decode cX12_readNext 180 = .ok (.iaload, 1) := by decide +kernel
theorem dX12_readNext_181 : decode cX12_readNext 181 = .ok (.if_icmp .ge 25, 3) := by decide +kernel
theorem dX12_readNext_184 : decode cX12_readNext 184 = .ok (.aload_n 0, 1) := by decide +kernel
theorem dX12_readNext_185 : decode cX12_readNext 185 = .ok (.getfield 31, 3) := by decide +kernel
theorem dX12_readNext_188 : decode cX12_readNext 188 = .ok (.bipush 11, 2) := by decide +kernel
theorem dX12_readNext_190 : decode cX12_readNext 190 = .ok (.iload_n 2, 1) := by decide +kernel
theorem dX12_readNext_191 : decode cX12_readNext 191 = .ok (.iadd, 1) := by decide +kernel
theorem dX12_readNext_192 : decode cX12_readNext 192 = .ok (.aload_n 0, 1) := by decide +kernel
theorem dX12_readNext_193 : decode cX12_readNext 193 = .ok (.iconst 0, 1) := by decide +kernel
theorem dX12_readNext_194 : decode cX12_readNext 194 = .ok (.bipush 99, 2) := by decide +kernel
theorem dX12_readNext_196 : decode cX12_readNext 196 = .ok (.invokevirtual 165, 3) := by decide +kernel
theorem dX12_readNext_199 : decode cX12_readNext 199 = .ok (.iastore, 1) := by decide +kernel
theorem dX12_readNext_200 : decode cX12_readNext 200 = .ok (.iinc 2 1, 3) := by decide +kernel
theorem dX12_readNext_203 : decode cX12_readNext 203 = .ok (.goto (-29), 3) := by decide +kernel
theorem dX12_readNext_206 : decode cX12_readNext 206 = .ok (.goto 75, 3) := by decide +kernel
theorem dX12_readNext_209 : decode cX12_readNext 209 = .ok (.aload_n 0, 1) := by decide +kernel
theorem dX12_readNext_210 : decode cX12_readNext 210 = .ok (.ldc 200, 2) := by decide +kernel
theorem dX12_readNext_212 : decode cX12_readNext 212 = .ok (.invokevirtual 154, 3) := by decide +kernel
theorem dX12_readNext_215 : decode cX12_readNext 215 = .ok (.ifCond .eq 10, 3) := by decide +kernel
theorem dX12_readNext_218 : decode cX12_readNext 218 = .ok (.aload_n 0, 1) := by decide +kernel
theorem dX12_readNext_219 : decode cX12_readNext 219 = .ok (.invokevirtual 210, 3) := by decide +kernel
theorem dX12_readNext_222 : decode cX12_readNext 222 = .ok (.goto 59, 3) := by decide +kernel
theorem dX12_readNext_225 : decode cX12_readNext 225 = .ok (.aload_n 0, 1) := by decide +kernel
theorem dX12_readNext_226 : decode cX12_readNext 226 = .ok (.ldc 202, 2) := by decide +kernel
theorem dX12_readNext_228 : decode cX12_readNext 228 = .ok (.invokevirtual 154, 3) := by decide +kernel
theorem dX12_readNext_231 : decode cX12_readNext 231 = .ok (.ifCond .eq 10, 3) := by decide +kernel
theorem dX12_readNext_234 : decode cX12_readNext 234 = .ok (.aload_n 0, 1) := by decide +kernel
theorem dX12_readNext_235 : decode cX12_readNext 235 = .ok (.invokevirtual 213, 3) := by decide +kernel
theorem dX12_readNext_238 : decode cX12_readNext 238 = .ok (.goto 43, 3) := by decide +kernel
theorem dX12_readNext_241 : decode cX12_readNext 241 = .ok (.aload_n 0, 1) := by decide +kernel
theorem dX12_readNext_242 : decode cX12_readNext 242 = .ok (.ldc 204, 2) := by decide +kernel
theorem dX12_readNext_244 : decode cX12_readNext 244 = .ok (.invokevirtual 154, 3) := by decide +kernel
theorem dX12_readNext_247 : decode cX12_readNext 247 = .ok (.ifCond .eq 10, 3) := by decide +kernel
theorem dX12_readNext_250 : decode cX12_readNext 250 = .ok (.aload_n 0, 1) := by decide +kernel
theorem dX12_readNext_251 : decode cX12_readNext 251 = .ok (.invokevirtual 216, 3) := by decide +kernel
theorem dX12_readNext_254 : decode cX12_readNext 254 = .ok (.goto 27, 3) := by decide +kernel
theorem dX12_readNext_257 : decode cX12_readNext 257 = .ok (.aload_n 0, 1) := by decide +kernel
theorem dX12_readNext_258 : decode cX12_readNext 258 = .ok (.ldc 206, 2) := by decide +kernel
theorem dX12_readNext_260 : decode cX12_readNext 260 = .ok (.invokevirtual 154, 3) := by decide +kernel
theorem dX12_readNext_263 : decode cX12_readNext 263 = .ok (.ifCond .eq 10, 3) := by decide +kernel
theorem dX12_readNext_266 : decode cX12_readNext 266 = .ok (.aload_n 0, 1) := by decide +kernel
theorem dX12_readNext_267 : decode cX12_readNext 267 = .ok (.invokevirtual 219, 3) := by decide +kernel
theorem dX12_readNext_270 : decode cX12_readNext 270 = .ok (.goto 11, 3) := by decide +kernel
theorem dX12_readNext_273 : decode cX12_readNext 273 = .ok (.aload_n 0, 1) := by decide +kernel
theorem dX12_readNext_274 : decode cX12_readNext 274 = .ok (.invokevirtual 151, 3) := by decide +kernel
theorem dX12_readNext_277 : decode cX12_readNext 277 = .ok (.aload_n 0, 1) := by decide +kernel
theorem dX12_readNext_278 : decode cX12_readNext 278 = .ok (.invokevirtual 222, 3) := by decide +kernel
theorem dX12_readNext_281 : decode cX12_readNext 281 = .ok (.return_, 1) := by decide +kernel
