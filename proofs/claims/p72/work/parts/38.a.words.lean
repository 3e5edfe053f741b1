theorem b_637 : Cond.fieldLink RX3 21 "GentleLetters$Log" "size" "I" ∈ BIG := bi (tin_1 _ (List.mem_of_getElem? (i := 84) rfl)) rfl
theorem b_638 : Cond.fieldLink RX3 9 "GentleLetters$Log" "kinds" "[I" ∈ BIG := bi (tin_1 _ (List.mem_of_getElem? (i := 78) rfl)) rfl
theorem b_639 : Cond.fieldLink RX3 15 "GentleLetters$Log" "places" "[I" ∈ BIG := bi (tin_1 _ (List.mem_of_getElem? (i := 80) rfl)) rfl
theorem b_640 : Cond.fieldLink RX3 18 "GentleLetters$Log" "olds" "[I" ∈ BIG := bi (tin_1 _ (List.mem_of_getElem? (i := 82) rfl)) rfl
theorem b_641 : Cond.methodLink RX3 25 arraycopyName ∈ BIG := bi (tin_3 _ (List.mem_of_getElem? (i := 131) rfl)) rfl
theorem b_642 : Cond.fieldLink RX0 42 "GentleLetters$Desk" "log" "LGentleLetters$Log;" ∈ BIG := bi (tin_1 _ (List.mem_of_getElem? (i := 163) rfl)) rfl
theorem b_643 : Cond.fieldLinkNest RX0 77 "GentleLetters$Log" "size" "I" RX11 ∈ nests := ne (tin_1 _ (List.mem_of_getElem? (i := 85) rfl)) rfl
theorem b_644 : Cond.methodLink RX0 80 yJ7_fill_53178 ∈ BIG := bi (tin_2 _ (List.mem_of_getElem? (i := 215) rfl)) rfl
theorem b_645 : Cond.fieldLink RX0 18 "GentleLetters$Desk" "reckonings" "[I" ∈ BIG := bi (tin_1 _ (List.mem_of_getElem? (i := 142) rfl)) rfl
theorem b_646 : Cond.methodLink RX0 86 arraycopyName ∈ BIG := bi (tin_3 _ (List.mem_of_getElem? (i := 124) rfl)) rfl
theorem b_647 : Cond.fieldLink RX0 36 "GentleLetters$Desk" "tidings" "[I" ∈ BIG := bi (tin_1 _ (List.mem_of_getElem? (i := 159) rfl)) rfl
theorem b_648 : Cond.methodLinkNest RX0 92 yX3_takeAll RX11 ∈ nests := ne (tin_3 _ (List.mem_of_getElem? (i := 127) rfl)) rfl
theorem b_649 : Cond.code yX3_takeAll cX3_takeAll 2 none ∈ BIG := bi (tin_3 _ (List.mem_of_getElem? (i := 130) rfl)) rfl
theorem b_650 : Cond.instanceMethod yX3_takeAll ∈ BIG := bi (tin_3 _ (List.mem_of_getElem? (i := 129) rfl)) rfl
theorem b_651 : Cond.selects RX3 yX3_takeAll yX3_takeAll ∈ BIG := bi (sin_2 _ (List.mem_map.mpr ⟨(yX3_takeAll, 4), List.mem_of_getElem? (i := 5) rfl, rfl⟩)) rfl
theorem b_652 : Cond.initialized RX3 ∈ BIG := bi (tin_1 _ (List.mem_of_getElem? (i := 5) rfl)) rfl
theorem m_yX3_takeAll : MV yX3_takeAll cX3_takeAll 2 none 1 := ⟨b_649, b_650, b_651, b_652, by decide +kernel⟩
theorem dX0_clear_0 : decode cX0_clear 0 = .ok (.aload_n 0, 1) := by decide +kernel
theorem dX0_clear_1 : decode cX0_clear 1 = .ok (.iconst 0, 1) := by decide +kernel
theorem dX0_clear_2 : decode cX0_clear 2 = .ok (.putfield 46, 3) := by decide +kernel
theorem dX0_clear_5 : decode cX0_clear 5 = .ok (.aload_n 0, 1) := by decide +kernel
theorem dX0_clear_6 : decode cX0_clear 6 = .ok (.iconst 0, 1) := by decide +kernel
theorem dX0_clear_7 : decode cX0_clear 7 = .ok (.putfield 50, 3) := by decide +kernel
theorem dX0_clear_10 : decode cX0_clear 10 = .ok (.aload_n 0, 1) := by decide +kernel
theorem dX0_clear_11 : decode cX0_clear 11 = .ok (.iconst 0, 1) := by decide +kernel
theorem dX0_clear_12 : decode cX0_clear 12 = .ok (.putfield 53, 3) := by decide +kernel
theorem dX0_clear_15 : decode cX0_clear 15 = .ok (.aload_n 0, 1) := by decide +kernel
theorem dX0_clear_16 : decode cX0_clear 16 = .ok (.iconst 0, 1) := by decide +kernel
theorem dX0_clear_17 : decode cX0_clear 17 = .ok (.putfield 56, 3) := by decide +kernel
theorem dX0_clear_20 : decode cX0_clear 20 = .ok (.aload_n 0, 1) := by decide +kernel
theorem dX0_clear_21 : decode cX0_clear 21 = .ok (.iconst 0, 1) := by decide +kernel
theorem dX0_clear_22 : decode cX0_clear 22 = .ok (.putfield 59, 3) := by decide +kernel
theorem dX0_clear_25 : decode cX0_clear 25 = .ok (.aload_n 0, 1) := by decide +kernel
theorem dX0_clear_26 : decode cX0_clear 26 = .ok (.iconst 0, 1) := by decide +kernel
theorem dX0_clear_27 : decode cX0_clear 27 = .ok (.putfield 62, 3) := by decide +kernel
theorem dX0_clear_30 : decode cX0_clear 30 = .ok (.aload_n 0, 1) := by decide +kernel
theorem dX0_clear_31 : decode cX0_clear 31 = .ok (.iconst 0, 1) := by decide +kernel
theorem dX0_clear_32 : decode cX0_clear 32 = .ok (.putfield 65, 3) := by decide +kernel
theorem dX0_clear_35 : decode cX0_clear 35 = .ok (.aload_n 0, 1) := by decide +kernel
theorem dX0_clear_36 : decode cX0_clear 36 = .ok (.iconst 0, 1) := by decide +kernel
theorem dX0_clear_37 : decode cX0_clear 37 = .ok (.putfield 68, 3) := by decide +kernel
theorem dX0_clear_40 : decode cX0_clear 40 = .ok (.aload_n 0, 1) := by decide +kernel
theorem dX0_clear_41 : decode cX0_clear 41 = .ok (.iconst 0, 1) := by decide +kernel
theorem dX0_clear_42 : decode cX0_clear 42 = .ok (.putfield 71, 3) := by decide +kernel
theorem dX0_clear_45 : decode cX0_clear 45 = .ok (.aload_n 0, 1) := by decide +kernel
theorem dX0_clear_46 : decode cX0_clear 46 = .ok (.iconst 0, 1) := by decide +kernel
theorem dX0_clear_47 : decode cX0_clear 47 = .ok (.putfield 74, 3) := by decide +kernel
theorem dX0_clear_50 : decode cX0_clear 50 = .ok (.aload_n 0, 1) := by decide +kernel
theorem dX0_clear_51 : decode cX0_clear 51 = .ok (.getfield 42, 3) := by decide +kernel
theorem dX0_clear_54 : decode cX0_clear 54 = .ok (.iconst 0, 1) := by decide +kernel
theorem dX0_clear_55 : decode cX0_clear 55 = .ok (.putfield 77, 3) := by decide +kernel
theorem dX0_clear_58 : decode cX0_clear 58 = .ok (.aload_n 0, 1) := by decide +kernel
theorem dX0_clear_59 : decode cX0_clear 59 = .ok (.getfield 9, 3) := by decide +kernel
theorem dX0_clear_62 : decode cX0_clear 62 = .ok (.iconst 0, 1) := by decide +kernel
theorem dX0_clear_63 : decode cX0_clear 63 = .ok (.invokestatic 80, 3) := by decide +kernel
theorem dX0_clear_66 : decode cX0_clear 66 = .ok (.aload_n 0, 1) := by decide +kernel
theorem dX0_clear_67 : decode cX0_clear 67 = .ok (.getfield 18, 3) := by decide +kernel
theorem dX0_clear_70 : decode cX0_clear 70 = .ok (.iconst 0, 1) := by decide +kernel
theorem dX0_clear_71 : decode cX0_clear 71 = .ok (.invokestatic 80, 3) := by decide +kernel
theorem dX0_clear_74 : decode cX0_clear 74 = .ok (.aload_n 0, 1) := by decide +kernel
theorem dX0_clear_75 : decode cX0_clear 75 = .ok (.getfield 21, 3) := by decide +kernel
theorem dX0_clear_78 : decode cX0_clear 78 = .ok (.iconst 0, 1) := by decide +kernel
theorem dX0_clear_79 : decode cX0_clear 79 = .ok (.invokestatic 80, 3) := by decide +kernel
theorem dX0_clear_82 : decode cX0_clear 82 = .ok (.return_, 1) := by decide +kernel
theorem dX0_copyFrom_0 : decode cX0_copyFrom 0 = .ok (.aload_n 0, 1) := by decide +kernel
theorem dX0_copyFrom_1 : decode cX0_copyFrom 1 = .ok (.aload_n 1, 1) := by decide +kernel
theorem dX0_copyFrom_2 : decode cX0_copyFrom 2 = .ok (.getfield 46, 3) := by decide +kernel
theorem dX0_copyFrom_5 : decode cX0_copyFrom 5 = .ok (.putfield 46, 3) := by decide +kernel
theorem dX0_copyFrom_8 : decode cX0_copyFrom 8 = .ok (.aload_n 0, 1) := by decide +kernel
theorem dX0_copyFrom_9 : decode cX0_copyFrom 9 = .ok (.aload_n 1, 1) := by decide +kernel
theorem dX0_copyFrom_10 : decode cX0_copyFrom 10 = .ok (.getfield 50, 3) := by decide +kernel
theorem dX0_copyFrom_13 : decode cX0_copyFrom 13 = .ok (.putfield 50, 3) := by decide +kernel
theorem dX0_copyFrom_16 : decode cX0_copyFrom 16 = .ok (.aload_n 0, 1) := by decide +kernel
theorem dX0_copyFrom_17 : decode cX0_copyFrom 17 = .ok (.aload_n 1, 1) := by decide +kernel
theorem dX0_copyFrom_18 : decode cX0_copyFrom 18 = .ok (.getfield 53, 3) := by decide +kernel
theorem dX0_copyFrom_21 : decode cX0_copyFrom 21 = .ok (.putfield 53, 3) := by decide +kernel
theorem dX0_copyFrom_24 : decode cX0_copyFrom 24 = .ok (.aload_n 0, 1) := by decide +kernel
theorem dX0_copyFrom_25 : decode cX0_copyFrom 25 = .ok (.aload_n 1, 1) := by decide +kernel
theorem dX0_copyFrom_26 : decode cX0_copyFrom 26 = .ok (.getfield 56, 3) := by decide +kernel
theorem dX0_copyFrom_29 : decode cX0_copyFrom 29 = .ok (.putfield 56, 3) := by decide +kernel
theorem dX0_copyFrom_32 : decode cX0_copyFrom 32 = .ok (.aload_n 0, 1) := by decide +kernel
theorem dX0_copyFrom_33 : decode cX0_copyFrom 33 = .ok (.aload_n 1, 1) := by decide +kernel
theorem dX0_copyFrom_34 : decode cX0_copyFrom 34 = .ok (.getfield 59, 3) := by decide +kernel
theorem dX0_copyFrom_37 : decode cX0_copyFrom 37 = .ok (.putfield 59, 3) := by decide +kernel
theorem dX0_copyFrom_40 : decode cX0_copyFrom 40 = .ok (.aload_n 0, 1) := by decide +kernel
theorem dX0_copyFrom_41 : decode cX0_copyFrom 41 = .ok (.aload_n 1, 1) := by decide +kernel
theorem dX0_copyFrom_42 : decode cX0_copyFrom 42 = .ok (.getfield 62, 3) := by decide +kernel
theorem dX0_copyFrom_45 : decode cX0_copyFrom 45 = .ok (.putfield 62, 3) := by decide +kernel
theorem dX0_copyFrom_48 : decode cX0_copyFrom 48 = .ok (.aload_n 0, 1) := by decide +kernel
theorem dX0_copyFrom_49 : decode cX0_copyFrom 49 = .ok (.aload_n 1, 1) := by decide +kernel
theorem dX0_copyFrom_50 : decode cX0_copyFrom 50 = .ok (.getfield 65, 3) := by decide +kernel
theorem dX0_copyFrom_53 : decode cX0_copyFrom 53 = .ok (.putfield 65, 3) := by decide +kernel
theorem dX0_copyFrom_56 : decode cX0_copyFrom 56 = .ok (.aload_n 0, 1) := by decide +kernel
theorem dX0_copyFrom_57 : decode cX0_copyFrom 57 = .ok (.aload_n 1, 1) := by decide +kernel
theorem dX0_copyFrom_58 : decode cX0_copyFrom 58 = .ok (.getfield 68, 3) := by decide +kernel
theorem dX0_copyFrom_61 : decode cX0_copyFrom 61 = .ok (.putfield 68, 3) := by decide +kernel
theorem dX0_copyFrom_64 : decode cX0_copyFrom 64 = .ok (.aload_n 0, 1) := by decide +kernel
theorem dX0_copyFrom_65 : decode cX0_copyFrom 65 = .ok (.aload_n 1, 1) := by decide +kernel
theorem dX0_copyFrom_66 : decode cX0_copyFrom 66 = .ok (.getfield 71, 3) := by decide +kernel
theorem dX0_copyFrom_69 : decode cX0_copyFrom 69 = .ok (.putfield 71, 3) := by decide +kernel
theorem dX0_copyFrom_72 : decode cX0_copyFrom 72 = .ok (.aload_n 0, 1) := by decide +kernel
theorem dX0_copyFrom_73 : decode cX0_copyFrom 73 = .ok (.aload_n 1, 1) := by decide +kernel
theorem dX0_copyFrom_74 : decode cX0_copyFrom 74 = .ok (.getfield 74, 3) := by decide +kernel
theorem dX0_copyFrom_77 : decode cX0_copyFrom 77 = .ok (.putfield 74, 3) := by decide +kernel
theorem dX0_copyFrom_80 : decode cX0_copyFrom 80 = .ok (.aload_n 1, 1) := by decide +kernel
theorem dX0_copyFrom_81 : decode cX0_copyFrom 81 = .ok (.getfield 9, 3) := by decide +kernel
theorem dX0_copyFrom_84 : decode cX0_copyFrom 84 = .ok (.iconst 0, 1) := by decide +kernel
theorem dX0_copyFrom_85 : decode cX0_copyFrom 85 = .ok (.aload_n 0, 1) := by decide +kernel
theorem dX0_copyFrom_86 : decode cX0_copyFrom 86 = .ok (.getfield 9, 3) := by decide +kernel
theorem dX0_copyFrom_89 : decode cX0_copyFrom 89 = .ok (.iconst 0, 1) := by decide +kernel
theorem dX0_copyFrom_90 : decode cX0_copyFrom 90 = .ok (.bipush 8, 2) := by decide +kernel
theorem dX0_copyFrom_92 : decode cX0_copyFrom 92 = .ok (.invokestatic 86, 3) := by decide +kernel
theorem dX0_copyFrom_95 : decode cX0_copyFrom 95 = .ok (.aload_n 1, 1) := by decide +kernel
theorem dX0_copyFrom_96 : decode cX0_copyFrom 96 = .ok (.getfield 15, 3) := by decide +kernel
theorem dX0_copyFrom_99 : decode cX0_copyFrom 99 = .ok (.iconst 0, 1) := by decide +kernel
theorem dX0_copyFrom_100 : decode cX0_copyFrom 100 = .ok (.aload_n 0, 1) := by decide +kernel
theorem dX0_copyFrom_101 : decode cX0_copyFrom 101 = .ok (.getfield 15, 3) := by decide +kernel
theorem dX0_copyFrom_104 : decode cX0_copyFrom 104 = .ok (.iconst 0, 1) := by decide +kernel
theorem dX0_copyFrom_105 : decode cX0_copyFrom 105 = .ok (.bipush 32, 2) := by decide +kernel
theorem dX0_copyFrom_107 : decode cX0_copyFrom 107 = .ok (.invokestatic 86, 3) := by decide +kernel
theorem dX0_copyFrom_110 : decode cX0_copyFrom 110 = .ok (.aload_n 1, 1) := by decide +kernel
theorem dX0_copyFrom_111 : decode cX0_copyFrom 111 = .ok (.getfield 18, 3) := by decide +kernel
theorem dX0_copyFrom_114 : decode cX0_copyFrom 114 = .ok (.iconst 0, 1) := by decide +kernel
theorem dX0_copyFrom_115 : decode cX0_copyFrom 115 = .ok (.aload_n 0, 1) := by decide +kernel
theorem dX0_copyFrom_116 : decode cX0_copyFrom 116 = .ok (.getfield 18, 3) := by decide +kernel
theorem dX0_copyFrom_119 : decode cX0_copyFrom 119 = .ok (.iconst 0, 1) := by decide +kernel
theorem dX0_copyFrom_120 : decode cX0_copyFrom 120 = .ok (.iconst 4, 1) := by decide +kernel
theorem dX0_copyFrom_121 : decode cX0_copyFrom 121 = .ok (.invokestatic 86, 3) := by decide +kernel
theorem dX0_copyFrom_124 : decode cX0_copyFrom 124 = .ok (.aload_n 1, 1) := by decide +kernel
theorem dX0_copyFrom_125 : decode cX0_copyFrom 125 = .ok (.getfield 21, 3) := by decide +kernel
theorem dX0_copyFrom_128 : decode cX0_copyFrom 128 = .ok (.iconst 0, 1) := by decide +kernel
theorem dX0_copyFrom_129 : decode cX0_copyFrom 129 = .ok (.aload_n 0, 1) := by decide +kernel
theorem dX0_copyFrom_130 : decode cX0_copyFrom 130 = .ok (.getfield 21, 3) := by decide +kernel
theorem dX0_copyFrom_133 : decode cX0_copyFrom 133 = .ok (.iconst 0, 1) := by decide +kernel
theorem dX0_copyFrom_134 : decode cX0_copyFrom 134 = .ok (.iconst 4, 1) := by decide +kernel
theorem dX0_copyFrom_135 : decode cX0_copyFrom 135 = .ok (.invokestatic 86, 3) := by decide +kernel
theorem dX0_copyFrom_138 : decode cX0_copyFrom 138 = .ok (.aload_n 1, 1) := by decide +kernel
theorem dX0_copyFrom_139 : decode cX0_copyFrom 139 = .ok (.getfield 24, 3) := by decide +kernel
theorem dX0_copyFrom_142 : decode cX0_copyFrom 142 = .ok (.iconst 0, 1) := by decide +kernel
theorem dX0_copyFrom_143 : decode cX0_copyFrom 143 = .ok (.aload_n 0, 1) := by decide +kernel
theorem dX0_copyFrom_144 : decode cX0_copyFrom 144 = .ok (.getfield 24, 3) := by decide +kernel
theorem dX0_copyFrom_147 : decode cX0_copyFrom 147 = .ok (.iconst 0, 1) := by decide +kernel
theorem dX0_copyFrom_148 : decode cX0_copyFrom 148 = .ok (.bipush 8, 2) := by decide +kernel
theorem dX0_copyFrom_150 : decode cX0_copyFrom 150 = .ok (.invokestatic 86, 3) := by decide +kernel
theorem dX0_copyFrom_153 : decode cX0_copyFrom 153 = .ok (.aload_n 1, 1) := by decide +kernel
theorem dX0_copyFrom_154 : decode cX0_copyFrom 154 = .ok (.getfield 27, 3) := by decide +kernel
theorem dX0_copyFrom_157 : decode cX0_copyFrom 157 = .ok (.iconst 0, 1) := by decide +kernel
theorem dX0_copyFrom_158 : decode cX0_copyFrom 158 = .ok (.aload_n 0, 1) := by decide +kernel
theorem dX0_copyFrom_159 : decode cX0_copyFrom 159 = .ok (.getfield 27, 3) := by decide +kernel
theorem dX0_copyFrom_162 : decode cX0_copyFrom 162 = .ok (.iconst 0, 1) := by decide +kernel
theorem dX0_copyFrom_163 : decode cX0_copyFrom 163 = .ok (.bipush 8, 2) := by decide +kernel
theorem dX0_copyFrom_165 : decode cX0_copyFrom 165 = .ok (.invokestatic 86, 3) := by decide +kernel
theorem dX0_copyFrom_168 : decode cX0_copyFrom 168 = .ok (.aload_n 1, 1) := by decide +kernel
theorem dX0_copyFrom_169 : decode cX0_copyFrom 169 = .ok (.getfield 30, 3) := by decide +kernel
theorem dX0_copyFrom_172 : decode cX0_copyFrom 172 = .ok (.iconst 0, 1) := by decide +kernel
theorem dX0_copyFrom_173 : decode cX0_copyFrom 173 = .ok (.aload_n 0, 1) := by decide +kernel
theorem dX0_copyFrom_174 : decode cX0_copyFrom 174 = .ok (.getfield 30, 3) := by decide +kernel
theorem dX0_copyFrom_177 : decode cX0_copyFrom 177 = .ok (.iconst 0, 1) := by decide +kernel
theorem dX0_copyFrom_178 : decode cX0_copyFrom 178 = .ok (.iconst 4, 1) := by decide +kernel
theorem dX0_copyFrom_179 : decode cX0_copyFrom 179 = .ok (.invokestatic 86, 3) := by decide +kernel
theorem dX0_copyFrom_182 : decode cX0_copyFrom 182 = .ok (.aload_n 1, 1) := by decide +kernel
theorem dX0_copyFrom_183 : decode cX0_copyFrom 183 = .ok (.getfield 33, 3) := by decide +kernel
theorem dX0_copyFrom_186 : decode cX0_copyFrom 186 = .ok (.iconst 0, 1) := by decide +kernel
theorem dX0_copyFrom_187 : decode cX0_copyFrom 187 = .ok (.aload_n 0, 1) := by decide +kernel
theorem dX0_copyFrom_188 : decode cX0_copyFrom 188 = .ok (.getfield 33, 3) := by decide +kernel
theorem dX0_copyFrom_191 : decode cX0_copyFrom 191 = .ok (.iconst 0, 1) := by decide +kernel
theorem dX0_copyFrom_192 : decode cX0_copyFrom 192 = .ok (.bipush 20, 2) := by decide +kernel
theorem dX0_copyFrom_194 : decode cX0_copyFrom 194 = .ok (.invokestatic 86, 3) := by decide +kernel
theorem dX0_copyFrom_197 : decode cX0_copyFrom 197 = .ok (.aload_n 1, 1) := by decide +kernel
theorem dX0_copyFrom_198 : decode cX0_copyFrom 198 = .ok (.getfield 36, 3) := by decide +kernel
theorem dX0_copyFrom_201 : decode cX0_copyFrom 201 = .ok (.iconst 0, 1) := by decide +kernel
theorem dX0_copyFrom_202 : decode cX0_copyFrom 202 = .ok (.aload_n 0, 1) := by decide +kernel
theorem dX0_copyFrom_203 : decode cX0_copyFrom 203 = .ok (.getfield 36, 3) := by decide +kernel
theorem dX0_copyFrom_206 : decode cX0_copyFrom 206 = .ok (.iconst 0, 1) := by decide +kernel
theorem dX0_copyFrom_207 : decode cX0_copyFrom 207 = .ok (.bipush 6, 2) := by decide +kernel
theorem dX0_copyFrom_209 : decode cX0_copyFrom 209 = .ok (.invokestatic 86, 3) := by decide +kernel
theorem dX0_copyFrom_212 : decode cX0_copyFrom 212 = .ok (.aload_n 0, 1) := by decide +kernel
theorem dX0_copyFrom_213 : decode cX0_copyFrom 213 = .ok (.getfield 42, 3) := by decide +kernel
theorem dX0_copyFrom_216 : decode cX0_copyFrom 216 = .ok (.aload_n 1, 1) := by decide +kernel
theorem dX0_copyFrom_217 : decode cX0_copyFrom 217 = .ok (.getfield 42, 3) := by decide +kernel
theorem dX0_copyFrom_220 : decode cX0_copyFrom 220 = .ok (.invokevirtual 92, 3) := by decide +kernel
theorem dX0_copyFrom_223 : decode cX0_copyFrom 223 = .ok (.return_, 1) := by decide +kernel
theorem dX0_put_0 : decode cX0_put 0 = .ok (.iload_n 1, 1) := by decide +kernel
theorem dX0_put_1 : decode cX0_put 1 = .ok (.ifCond .ne 13, 3) := by decide +kernel
theorem dX0_put_4 : decode cX0_put 4 = .ok (.aload_n 0, 1) := by decide +kernel
theorem dX0_put_5 : decode cX0_put 5 = .ok (.getfield 9, 3) := by decide +kernel
theorem dX0_put_8 : decode cX0_put 8 = .ok (.iload_n 2, 1) := by decide +kernel
theorem dX0_put_9 : decode cX0_put 9 = .ok (.iload_n 3, 1) := by decide +kernel
theorem dX0_put_10 : decode cX0_put 10 = .ok (.iastore, 1) := by decide +kernel
theorem dX0_put_11 : decode cX0_put 11 = .ok (.goto 23, 3) := by decide +kernel
theorem dX0_put_14 : decode cX0_put 14 = .ok (.iload_n 1, 1) := by decide +kernel
theorem dX0_put_15 : decode cX0_put 15 = .ok (.iconst 2, 1) := by decide +kernel
theorem dX0_put_16 : decode cX0_put 16 = .ok (.if_icmp .ne 13, 3) := by decide +kernel
theorem dX0_put_19 : decode cX0_put 19 = .ok (.aload_n 0, 1) := by decide +kernel
theorem dX0_put_20 : decode cX0_put 20 = .ok (.getfield 15, 3) := by decide +kernel
theorem dX0_put_23 : decode cX0_put 23 = .ok (.iload_n 2, 1) := by decide +kernel
theorem dX0_put_24 : decode cX0_put 24 = .ok (.iload_n 3, 1) := by decide +kernel
theorem dX0_put_25 : decode cX0_put 25 = .ok (.iastore, 1) := by decide +kernel
theorem dX0_put_26 : decode cX0_put 26 = .ok (.goto 8, 3) := by decide +kernel
theorem dX0_put_29 : decode cX0_put 29 = .ok (.aload_n 0, 1) := by decide +kernel
theorem dX0_put_30 : decode cX0_put 30 = .ok (.iload_n 3, 1) := by decide +kernel
theorem dX0_put_31 : decode cX0_put 31 = .ok (.putfield 50, 3) := by decide +kernel
theorem dX0_put_34 : decode cX0_put 34 = .ok (.return_, 1) := by decide +kernel
theorem dX3_note_0 : decode cX3_note 0 = .ok (.aload_n 0, 1) := by decide +kernel
theorem dX3_note_1 : decode cX3_note 1 = .ok (.getfield 21, 3) := by decide +kernel
theorem dX3_note_4 : decode cX3_note 4 = .ok (.bipush 60, 2) := by decide +kernel
theorem dX3_note_6 : decode cX3_note 6 = .ok (.if_icmp .ge 43, 3) := by decide +kernel
theorem dX3_note_9 : decode cX3_note 9 = .ok (.aload_n 0, 1) := by decide +kernel
theorem dX3_note_10 : decode cX3_note 10 = .ok (.getfield 9, 3) := by decide +kernel
theorem dX3_note_13 : decode cX3_note 13 = .ok (.aload_n 0, 1) := by decide +kernel
theorem dX3_note_14 : decode cX3_note 14 = .ok (.getfield 21, 3) := by decide +kernel
theorem dX3_note_17 : decode cX3_note 17 = .ok (.iload_n 1, 1) := by decide +kernel
theorem dX3_note_18 : decode cX3_note 18 = .ok (.iastore, 1) := by decide +kernel
theorem dX3_note_19 : decode cX3_note 19 = .ok (.aload_n 0, 1) := by decide +kernel
theorem dX3_note_20 : decode cX3_note 20 = .ok (.getfield 15, 3) := by decide +kernel
theorem dX3_note_23 : decode cX3_note 23 = .ok (.aload_n 0, 1) := by decide +kernel
theorem dX3_note_24 : decode cX3_note 24 = .ok (.getfield 21, 3) := by decide +kernel
theorem dX3_note_27 : decode cX3_note 27 = .ok (.iload_n 2, 1) := by decide +kernel
theorem dX3_note_28 : decode cX3_note 28 = .ok (.iastore, 1) := by decide +kernel
theorem dX3_note_29 : decode cX3_note 29 = .ok (.aload_n 0, 1) := by decide +kernel
theorem dX3_note_30 : decode cX3_note 30 = .ok (.getfield 18, 3) := by decide +kernel
theorem dX3_note_33 : decode cX3_note 33 = .ok (.aload_n 0, 1) := by decide +kernel
theorem dX3_note_34 : decode cX3_note 34 = .ok (.getfield 21, 3) := by decide +kernel
theorem dX3_note_37 : decode cX3_note 37 = .ok (.iload_n 3, 1) := by decide +kernel
theorem dX3_note_38 : decode cX3_note 38 = .ok (.iastore, 1) := by decide +kernel
theorem dX3_note_39 : decode cX3_note 39 = .ok (.aload_n 0, 1) := by decide +kernel
theorem dX3_note_40 : decode cX3_note 40 = .ok (.dup, 1) := by decide +kernel
theorem dX3_note_41 : decode cX3_note 41 = .ok (.getfield 21, 3) := by decide +kernel
theorem dX3_note_44 : decode cX3_note 44 = .ok (.iconst 1, 1) := by decide +kernel
theorem dX3_note_45 : decode cX3_note 45 = .ok (.iadd, 1) := by decide +kernel
theorem dX3_note_46 : decode cX3_note 46 = .ok (.putfield 21, 3) := by decide +kernel
theorem dX3_note_49 : decode cX3_note 49 = .ok (.return_, 1) := by decide +kernel
theorem dX3_takeAll_0 : decode cX3_takeAll 0 = .ok (.aload_n 1, 1) := by decide +kernel
theorem dX3_takeAll_1 : decode cX3_takeAll 1 = .ok (.getfield 9, 3) := by decide +kernel
theorem dX3_takeAll_4 : decode cX3_takeAll 4 = .ok (.iconst 0, 1) := by decide +kernel
theorem dX3_takeAll_5 : decode cX3_takeAll 5 = .ok (.aload_n 0, 1) := by decide +kernel
theorem dX3_takeAll_6 : decode cX3_takeAll 6 = .ok (.getfield 9, 3) := by decide +kernel
theorem dX3_takeAll_9 : decode cX3_takeAll 9 = .ok (.iconst 0, 1) := by decide +kernel
theorem dX3_takeAll_10 : decode cX3_takeAll 10 = .ok (.bipush 60, 2) := by decide +kernel
theorem dX3_takeAll_12 : decode cX3_takeAll 12 = .ok (.invokestatic 25, 3) := by decide +kernel
theorem dX3_takeAll_15 : decode cX3_takeAll 15 = .ok (.aload_n 1, 1) := by decide +kernel
theorem dX3_takeAll_16 : decode cX3_takeAll 16 = .ok (.getfield 15, 3) := by decide +kernel
theorem dX3_takeAll_19 : decode cX3_takeAll 19 = .ok (.iconst 0, 1) := by decide +kernel
theorem dX3_takeAll_20 : decode cX3_takeAll 20 = .ok (.aload_n 0, 1) := by decide +kernel
theorem dX3_takeAll_21 : decode cX3_takeAll 21 = .ok (.getfield 15, 3) := by decide +kernel
theorem dX3_takeAll_24 : decode cX3_takeAll 24 = .ok (.iconst 0, 1) := by decide +kernel
theorem dX3_takeAll_25 : decode cX3_takeAll 25 = .ok (.bipush 60, 2) := by decide +kernel
theorem dX3_takeAll_27 : decode cX3_takeAll 27 = .ok (.invokestatic 25, 3) := by decide +kernel
theorem dX3_takeAll_30 : decode cX3_takeAll 30 = .ok (.aload_n 1, 1) := by decide +kernel
theorem dX3_takeAll_31 : decode cX3_takeAll 31 = .ok (.getfield 18, 3) := by decide +kernel
theorem dX3_takeAll_34 : decode cX3_takeAll 34 = .ok (.iconst 0, 1) := by decide +kernel
theorem dX3_takeAll_35 : decode cX3_takeAll 35 = .ok (.aload_n 0, 1) := by decide +kernel
theorem dX3_takeAll_36 : decode cX3_takeAll 36 = .ok (.getfield 18, 3) := by decide +kernel
theorem dX3_takeAll_39 : decode cX3_takeAll 39 = .ok (.iconst 0, 1) := by decide +kernel
theorem dX3_takeAll_40 : decode cX3_takeAll 40 = .ok (.bipush 60, 2) := by decide +kernel
theorem dX3_takeAll_42 : decode cX3_takeAll 42 = .ok (.invokestatic 25, 3) := by decide +kernel
theorem dX3_takeAll_45 : decode cX3_takeAll 45 = .ok (.aload_n 0, 1) := by decide +kernel
theorem dX3_takeAll_46 : decode cX3_takeAll 46 = .ok (.aload_n 1, 1) := by decide +kernel
theorem dX3_takeAll_47 : decode cX3_takeAll 47 = .ok (.getfield 21, 3) := by decide +kernel
theorem dX3_takeAll_50 : decode cX3_takeAll 50 = .ok (.putfield 21, 3) := by decide +kernel
theorem dX3_takeAll_53 : decode cX3_takeAll 53 = .ok (.return_, 1) := by decide +kernel
/-- what a change's rows say: the place fits its kind, a state that was fits too -/
def lg3 (k a o : Int32) : Prop := (k.toInt = 0 → 0 ≤ a.toInt ∧ a.toInt ≤ 7) ∧ (k.toInt = 2 → 0 ≤ a.toInt ∧ a.toInt ≤ 31) ∧ (k.toInt ≠ 0 → k.toInt ≠ 2 → 0 ≤ o.toInt ∧ o.toInt ≤ 7)
def lgok (fk fa fo : Nat → Int32) : Prop := ∀ j, j < 60 → lg3 (fk j) (fa j) (fo j)
theorem lg_upd {fk fa fo : Nat → Int32} {k a o : Int32} {i : Nat} (h : lgok fk fa fo) (h1 : lg3 k a o) : lgok (upd fk i k) (upd fa i a) (upd fo i o) := fun j hj => by
  by_cases q : j = i
  · subst q
    rw [pk_us, pk_us, pk_us]
    exact h1
  · rw [pk_un q, pk_un q, pk_un q]
    exact h j hj
theorem lg_cpy {fk fa fo gk ga go : Nat → Int32} (h : lgok fk fa fo) : lgok (va_cpy fk gk 0 0 60) (va_cpy fa ga 0 0 60) (va_cpy fo go 0 0 60) := fun j hj => by
  unfold va_cpy
  rw [if_pos ⟨by omega, by omega⟩, if_pos ⟨by omega, by omega⟩, if_pos ⟨by omega, by omega⟩]
  simp only [Nat.sub_zero, Nat.zero_add]
  exact h j hj
