theorem b_95 : Cond.methodLinkNest RX4 15 yX0_everything RX11 ∈ nests := ne (tin_4 _ (List.mem_of_getElem? (i := 137) rfl)) rfl
theorem b_96 : Cond.fieldLink RX4 9 "GentleLetters$Mind" "means" "[I" ∈ BIG := bi (tin_2 _ (List.mem_of_getElem? (i := 41) rfl)) rfl
theorem b_97 : Cond.methodLinkNest RX4 21 yX0_meanOf RX11 ∈ nests := ne (tin_4 _ (List.mem_of_getElem? (i := 138) rfl)) rfl
theorem b_98 : Cond.methodLink RX4 25 yX4_hurtOf ∈ BIG := bi (tin_4 _ (List.mem_of_getElem? (i := 152) rfl)) rfl
theorem b_99 : Cond.fieldLink RX6 15 "GentleLetters$Reach" "distances" "[I" ∈ BIG := bi (tin_2 _ (List.mem_of_getElem? (i := 54) rfl)) rfl
theorem b_100 : Cond.constant RX6 18 (1000000000) ∈ BIG := bi (tin_4 _ (List.mem_of_getElem? (i := 179) rfl)) rfl
theorem b_101 : Cond.fieldLink RX6 25 "GentleLetters$Reach" "size" "I" ∈ BIG := bi (tin_2 _ (List.mem_of_getElem? (i := 57) rfl)) rfl
theorem b_102 : Cond.fieldLink RX6 9 "GentleLetters$Reach" "beliefs" "[I" ∈ BIG := bi (tin_2 _ (List.mem_of_getElem? (i := 51) rfl)) rfl
theorem b_103 : Cond.methodLink RX6 19 yJ7_fill_53178 ∈ BIG := bi (tin_4 _ (List.mem_of_getElem? (i := 180) rfl)) rfl
theorem b_104 : Cond.methodLink RX6 29 yX6_add ∈ BIG := bi (tin_4 _ (List.mem_of_getElem? (i := 181) rfl)) rfl
theorem b_105 : Cond.fieldLinkNest RX6 33 "GentleLetters$Desk" "words" "I" RX11 ∈ nests := ne (tin_1 _ (List.mem_of_getElem? (i := 123) rfl)) rfl
theorem b_106 : Cond.methodLinkNest RX6 38 yX0_nextBelief RX11 ∈ nests := ne (tin_4 _ (List.mem_of_getElem? (i := 185) rfl)) rfl
theorem b_107 : Cond.fieldLink RX5 9 "GentleLetters$Planner" "table" "[I" ∈ BIG := bi (tin_2 _ (List.mem_of_getElem? (i := 72) rfl)) rfl
theorem b_108 : Cond.fieldLink RX5 22 "GentleLetters$Planner" "honest" "Z" ∈ BIG := bi (tin_2 _ (List.mem_of_getElem? (i := 78) rfl)) rfl
theorem b_109 : Cond.methodLinkNest RX5 78 yX0_nextBelief RX11 ∈ nests := ne (tin_4 _ (List.mem_of_getElem? (i := 201) rfl)) rfl
theorem b_110 : Cond.methodLink RX5 51 yX5_costWithDays ∈ BIG := bi (tin_4 _ (List.mem_of_getElem? (i := 202) rfl)) rfl
theorem b_111 : Cond.constant RX5 40 (1000000000) ∈ BIG := bi (tin_4 _ (List.mem_of_getElem? (i := 191) rfl)) rfl
theorem b_112 : Cond.methodLinkNest RX5 81 yX4_pain RX11 ∈ nests := ne (tin_4 _ (List.mem_of_getElem? (i := 206) rfl)) rfl
theorem b_113 : Cond.fieldLink RX5 18 "GentleLetters$Planner" "gentle" "Z" ∈ BIG := bi (tin_2 _ (List.mem_of_getElem? (i := 77) rfl)) rfl
theorem b_114 : Cond.methodLinkNest RX5 89 yX0_leftOf RX11 ∈ nests := ne (tin_4 _ (List.mem_of_getElem? (i := 208) rfl)) rfl
theorem b_115 : Cond.methodLinkNest RX5 92 yX0_shameOf RX11 ∈ nests := ne (tin_4 _ (List.mem_of_getElem? (i := 209) rfl)) rfl
theorem b_116 : Cond.methodLink RX5 86 yJ9_max_7cf53 ∈ BIG := bi (tin_4 _ (List.mem_of_getElem? (i := 207) rfl)) rfl
theorem b_117 : Cond.methodLinkNest RX5 74 yX0_isTrue RX11 ∈ nests := ne (tin_4 _ (List.mem_of_getElem? (i := 200) rfl)) rfl
theorem b_118 : Cond.methodLink RX5 62 yX5_costBy ∈ BIG := bi (tin_4 _ (List.mem_of_getElem? (i := 196) rfl)) rfl
theorem b_119 : Cond.fieldLinkNest RX5 66 "GentleLetters$Desk" "words" "I" RX11 ∈ nests := ne (tin_1 _ (List.mem_of_getElem? (i := 126) rfl)) rfl
theorem b_120 : Cond.methodLink RX5 69 yJ9_min_7cf53 ∈ BIG := bi (tin_4 _ (List.mem_of_getElem? (i := 210) rfl)) rfl
theorem b_121 : Cond.static yJ9_min_7cf53 ∈ BIG := bi (tin_2 _ (List.mem_of_getElem? (i := 231) rfl)) rfl
theorem b_122 : Cond.code yJ9_min_7cf53 cJ9_min_7cf53 2 (some .int) ∈ BIG := bi (tin_2 _ (List.mem_of_getElem? (i := 232) rfl)) rfl
theorem b_123 : Cond.methodLinkNest RX5 48 yX0_everything RX11 ∈ nests := ne (tin_4 _ (List.mem_of_getElem? (i := 211) rfl)) rfl
theorem b_124 : Cond.fieldLink RX5 55 "GentleLetters$Planner" "cost" "I" ∈ BIG := bi (tin_2 _ (List.mem_of_getElem? (i := 75) rfl)) rfl
theorem b_125 : Cond.fieldLinkNest RX5 41 "GentleLetters$Desk" "days" "I" RX11 ∈ nests := ne (tin_1 _ (List.mem_of_getElem? (i := 107) rfl)) rfl
theorem b_126 : Cond.fieldLink RX5 15 "GentleLetters$Planner" "firstRow" "[I" ∈ BIG := bi (tin_2 _ (List.mem_of_getElem? (i := 73) rfl)) rfl
theorem b_127 : Cond.fieldLinkNest RX5 25 "GentleLetters$Reach" "size" "I" RX11 ∈ nests := ne (tin_2 _ (List.mem_of_getElem? (i := 58) rfl)) rfl
theorem b_128 : Cond.methodLink RX5 58 yX5_findFirstRow ∈ BIG := bi (tin_4 _ (List.mem_of_getElem? (i := 212) rfl)) rfl
theorem b_129 : Cond.fieldLinkNest RX5 31 "GentleLetters$Reach" "beliefs" "[I" RX11 ∈ nests := ne (tin_2 _ (List.mem_of_getElem? (i := 53) rfl)) rfl
theorem b_130 : Cond.methodLinkNest RX5 34 yX0_truth RX11 ∈ nests := ne (tin_4 _ (List.mem_of_getElem? (i := 190) rfl)) rfl
theorem b_131 : Cond.methodLink RX5 44 yX5_leastFrom ∈ BIG := bi (tin_4 _ (List.mem_of_getElem? (i := 192) rfl)) rfl
theorem b_132 : Cond.fieldLink RX7 9 "GentleLetters$Risks" "later" "[I" ∈ BIG := bi (tin_2 _ (List.mem_of_getElem? (i := 96) rfl)) rfl
theorem b_133 : Cond.fieldLink RX7 50 "GentleLetters$Risks" "cost" "I" ∈ BIG := bi (tin_2 _ (List.mem_of_getElem? (i := 98) rfl)) rfl
theorem b_134 : Cond.fieldLink RX7 62 "GentleLetters$Risks" "word" "I" ∈ BIG := bi (tin_2 _ (List.mem_of_getElem? (i := 100) rfl)) rfl
theorem b_135 : Cond.fieldLinkNest RX7 65 "GentleLetters$Desk" "words" "I" RX11 ∈ nests := ne (tin_1 _ (List.mem_of_getElem? (i := 125) rfl)) rfl
theorem b_136 : Cond.methodLinkNest RX7 68 yX0_nextBelief RX11 ∈ nests := ne (tin_5 _ (List.mem_of_getElem? (i := 99) rfl)) rfl
theorem b_137 : Cond.methodLinkNest RX7 41 yX4_pain RX11 ∈ nests := ne (tin_5 _ (List.mem_of_getElem? (i := 100) rfl)) rfl
theorem b_138 : Cond.fieldLinkNest RX7 34 "GentleLetters$Desk" "days" "I" RX11 ∈ nests := ne (tin_1 _ (List.mem_of_getElem? (i := 106) rfl)) rfl
theorem b_139 : Cond.methodLinkNest RX7 47 yX0_leftOf RX11 ∈ nests := ne (tin_5 _ (List.mem_of_getElem? (i := 101) rfl)) rfl
theorem b_140 : Cond.methodLinkNest RX7 71 yX0_shameOf RX11 ∈ nests := ne (tin_5 _ (List.mem_of_getElem? (i := 102) rfl)) rfl
theorem b_141 : Cond.fieldLinkNest RX7 18 "GentleLetters$Reach" "size" "I" RX11 ∈ nests := ne (tin_2 _ (List.mem_of_getElem? (i := 56) rfl)) rfl
theorem b_142 : Cond.methodLink RX7 37 yX7_choose ∈ BIG := bi (tin_5 _ (List.mem_of_getElem? (i := 95) rfl)) rfl
theorem b_143 : Cond.fieldLink RX7 15 "GentleLetters$Risks" "fresh" "[I" ∈ BIG := bi (tin_2 _ (List.mem_of_getElem? (i := 97) rfl)) rfl
theorem b_144 : Cond.methodLink RX7 56 arraycopyName ∈ BIG := bi (tin_5 _ (List.mem_of_getElem? (i := 107) rfl)) rfl
theorem b_145 : Cond.native arraycopyName ∈ BIG := bi (tin_3 _ (List.mem_of_getElem? (i := 126) rfl)) rfl
theorem b_146 : Cond.static arraycopyName ∈ BIG := bi (tin_3 _ (List.mem_of_getElem? (i := 125) rfl)) rfl
theorem b_147 : Cond.initialized RJ10 ∈ BIG := bi (tin_1 _ (List.mem_of_getElem? (i := 20) rfl)) rfl
theorem b_148 : Cond.fieldLinkNest RX7 24 "GentleLetters$Reach" "beliefs" "[I" RX11 ∈ nests := ne (tin_2 _ (List.mem_of_getElem? (i := 52) rfl)) rfl
theorem b_149 : Cond.methodLinkNest RX7 27 yX0_truth RX11 ∈ nests := ne (tin_5 _ (List.mem_of_getElem? (i := 93) rfl)) rfl
theorem b_150 : Cond.constant RX7 33 (100000) ∈ BIG := bi (tin_5 _ (List.mem_of_getElem? (i := 94) rfl)) rfl
theorem b_151 : Cond.methodLinkNest RX7 53 yX0_inTheMean RX11 ∈ nests := ne (tin_5 _ (List.mem_of_getElem? (i := 103) rfl)) rfl
theorem b_152 : Cond.code yX0_shameOf cX0_shameOf 2 (some .int) ∈ BIG := bi (tin_4 _ (List.mem_of_getElem? (i := 111) rfl)) rfl
theorem b_153 : Cond.instanceMethod yX0_shameOf ∈ BIG := bi (tin_4 _ (List.mem_of_getElem? (i := 110) rfl)) rfl
theorem b_154 : Cond.selects RX0 yX0_shameOf yX0_shameOf ∈ BIG := bi (sin_4 _ (List.mem_map.mpr ⟨(yX0_shameOf, 20), List.mem_of_getElem? (i := 3) rfl, rfl⟩)) rfl
theorem b_155 : Cond.code yX4_pain cX4_pain 3 (some .int) ∈ BIG := bi (tin_4 _ (List.mem_of_getElem? (i := 151) rfl)) rfl
theorem b_156 : Cond.instanceMethod yX4_pain ∈ BIG := bi (tin_4 _ (List.mem_of_getElem? (i := 150) rfl)) rfl
theorem b_157 : Cond.selects RX4 yX4_pain yX4_pain ∈ BIG := bi (sin_4 _ (List.mem_map.mpr ⟨(yX4_pain, 1), List.mem_of_getElem? (i := 10) rfl, rfl⟩)) rfl
theorem b_158 : Cond.code yX5_costBy cX5_costBy 9 (some .int) ∈ BIG := bi (tin_4 _ (List.mem_of_getElem? (i := 199) rfl)) rfl
theorem b_159 : Cond.instanceMethod yX5_costBy ∈ BIG := bi (tin_4 _ (List.mem_of_getElem? (i := 198) rfl)) rfl
theorem b_160 : Cond.selects RX5 yX5_costBy yX5_costBy ∈ BIG := bi (sin_5 _ (List.mem_map.mpr ⟨(yX5_costBy, 5), List.mem_of_getElem? (i := 2) rfl, rfl⟩)) rfl
theorem b_161 : Cond.initialized RX5 ∈ BIG := bi (tin_1 _ (List.mem_of_getElem? (i := 9) rfl)) rfl
theorem b_162 : Cond.code yX5_costWithDays cX5_costWithDays 3 (some .int) ∈ BIG := bi (tin_4 _ (List.mem_of_getElem? (i := 205) rfl)) rfl
theorem b_163 : Cond.instanceMethod yX5_costWithDays ∈ BIG := bi (tin_4 _ (List.mem_of_getElem? (i := 204) rfl)) rfl
theorem b_164 : Cond.selects RX5 yX5_costWithDays yX5_costWithDays ∈ BIG := bi (sin_5 _ (List.mem_map.mpr ⟨(yX5_costWithDays, 5), List.mem_of_getElem? (i := 3) rfl, rfl⟩)) rfl
theorem b_165 : Cond.code yX5_findFirstRow cX5_findFirstRow 9 none ∈ BIG := bi (tin_4 _ (List.mem_of_getElem? (i := 215) rfl)) rfl
theorem b_166 : Cond.instanceMethod yX5_findFirstRow ∈ BIG := bi (tin_4 _ (List.mem_of_getElem? (i := 214) rfl)) rfl
theorem b_167 : Cond.selects RX5 yX5_findFirstRow yX5_findFirstRow ∈ BIG := bi (sin_5 _ (List.mem_map.mpr ⟨(yX5_findFirstRow, 5), List.mem_of_getElem? (i := 4) rfl, rfl⟩)) rfl
theorem b_168 : Cond.code yX5_leastFrom cX5_leastFrom 7 (some .int) ∈ BIG := bi (tin_4 _ (List.mem_of_getElem? (i := 195) rfl)) rfl
theorem b_169 : Cond.instanceMethod yX5_leastFrom ∈ BIG := bi (tin_4 _ (List.mem_of_getElem? (i := 194) rfl)) rfl
theorem b_170 : Cond.selects RX5 yX5_leastFrom yX5_leastFrom ∈ BIG := bi (sin_5 _ (List.mem_map.mpr ⟨(yX5_leastFrom, 5), List.mem_of_getElem? (i := 1) rfl, rfl⟩)) rfl
theorem b_171 : Cond.code yX6_add cX6_add 3 none ∈ BIG := bi (tin_4 _ (List.mem_of_getElem? (i := 184) rfl)) rfl
theorem b_172 : Cond.instanceMethod yX6_add ∈ BIG := bi (tin_4 _ (List.mem_of_getElem? (i := 183) rfl)) rfl
theorem b_173 : Cond.selects RX6 yX6_add yX6_add ∈ BIG := bi (sin_4 _ (List.mem_map.mpr ⟨(yX6_add, 3), List.mem_of_getElem? (i := 15) rfl, rfl⟩)) rfl
theorem b_174 : Cond.initialized RX6 ∈ BIG := bi (tin_1 _ (List.mem_of_getElem? (i := 8) rfl)) rfl
theorem b_175 : Cond.code yX7_choose cX7_choose 9 none ∈ BIG := bi (tin_5 _ (List.mem_of_getElem? (i := 98) rfl)) rfl
theorem b_176 : Cond.instanceMethod yX7_choose ∈ BIG := bi (tin_5 _ (List.mem_of_getElem? (i := 97) rfl)) rfl
theorem b_177 : Cond.selects RX7 yX7_choose yX7_choose ∈ BIG := bi (sin_5 _ (List.mem_map.mpr ⟨(yX7_choose, 4), List.mem_of_getElem? (i := 12) rfl, rfl⟩)) rfl
theorem b_178 : Cond.initialized RX7 ∈ BIG := bi (tin_1 _ (List.mem_of_getElem? (i := 10) rfl)) rfl
theorem b_179 : Cond.code yJ7_fill_53178 cJ7_fill_53178 4 none ∈ BIG := bi (tin_2 _ (List.mem_of_getElem? (i := 217) rfl)) rfl
theorem b_180 : Cond.static yJ7_fill_53178 ∈ BIG := bi (tin_2 _ (List.mem_of_getElem? (i := 216) rfl)) rfl
theorem b_181 : Cond.initialized RJ7 ∈ BIG := bi (tin_1 _ (List.mem_of_getElem? (i := 14) rfl)) rfl
theorem b_182 : Cond.laysFinal RX4 RX4 "means" "[I" ∈ BIG := bi (tin_2 _ (List.mem_of_getElem? (i := 42) rfl)) rfl
theorem b_183 : Cond.laysFinal RX5 RX5 "table" "[I" ∈ BIG := bi (tin_2 _ (List.mem_of_getElem? (i := 79) rfl)) rfl
theorem b_184 : Cond.laysFinal RX5 RX5 "firstRow" "[I" ∈ BIG := bi (tin_2 _ (List.mem_of_getElem? (i := 81) rfl)) rfl
theorem b_185 : Cond.lays RX5 RX5 "cost" "I" ∈ BIG := bi (tin_2 _ (List.mem_of_getElem? (i := 83) rfl)) rfl
theorem b_186 : Cond.lays RX5 RX5 "gentle" "Z" ∈ BIG := bi (tin_2 _ (List.mem_of_getElem? (i := 85) rfl)) rfl
theorem b_187 : Cond.lays RX5 RX5 "honest" "Z" ∈ BIG := bi (tin_2 _ (List.mem_of_getElem? (i := 87) rfl)) rfl
theorem b_188 : Cond.laysFinal RX6 RX6 "beliefs" "[I" ∈ BIG := bi (tin_2 _ (List.mem_of_getElem? (i := 59) rfl)) rfl
theorem b_189 : Cond.laysFinal RX6 RX6 "distances" "[I" ∈ BIG := bi (tin_2 _ (List.mem_of_getElem? (i := 61) rfl)) rfl
theorem b_190 : Cond.lays RX6 RX6 "size" "I" ∈ BIG := bi (tin_2 _ (List.mem_of_getElem? (i := 63) rfl)) rfl
theorem b_191 : Cond.laysFinal RX7 RX7 "later" "[I" ∈ BIG := bi (tin_2 _ (List.mem_of_getElem? (i := 102) rfl)) rfl
theorem b_192 : Cond.laysFinal RX7 RX7 "fresh" "[I" ∈ BIG := bi (tin_2 _ (List.mem_of_getElem? (i := 104) rfl)) rfl
theorem b_193 : Cond.lays RX7 RX7 "cost" "I" ∈ BIG := bi (tin_2 _ (List.mem_of_getElem? (i := 106) rfl)) rfl
theorem b_194 : Cond.lays RX7 RX7 "word" "I" ∈ BIG := bi (tin_2 _ (List.mem_of_getElem? (i := 108) rfl)) rfl
theorem m_yX0_shameOf : MV yX0_shameOf cX0_shameOf 2 (some .int) 1 := ⟨b_152, b_153, b_154, b_21, by decide +kernel⟩
theorem m_yX4_pain : MV yX4_pain cX4_pain 3 (some .int) 2 := ⟨b_155, b_156, b_157, b_94, by decide +kernel⟩
theorem m_yX5_costBy : MV yX5_costBy cX5_costBy 9 (some .int) 5 := ⟨b_158, b_159, b_160, b_161, by decide +kernel⟩
theorem m_yX5_costWithDays : MV yX5_costWithDays cX5_costWithDays 3 (some .int) 2 := ⟨b_162, b_163, b_164, b_161, by decide +kernel⟩
theorem m_yX5_findFirstRow : MV yX5_findFirstRow cX5_findFirstRow 9 none 2 := ⟨b_165, b_166, b_167, b_161, by decide +kernel⟩
theorem m_yX5_leastFrom : MV yX5_leastFrom cX5_leastFrom 7 (some .int) 4 := ⟨b_168, b_169, b_170, b_161, by decide +kernel⟩
theorem m_yX6_add : MV yX6_add cX6_add 3 none 2 := ⟨b_171, b_172, b_173, b_174, by decide +kernel⟩
theorem m_yX7_choose : MV yX7_choose cX7_choose 9 none 4 := ⟨b_175, b_176, b_177, b_178, by decide +kernel⟩
theorem m_yJ7_fill_53178 : MS yJ7_fill_53178 cJ7_fill_53178 4 none 2 := ⟨b_179, b_180, b_181, by decide +kernel⟩
theorem i_X4 : ∀ w ∈ u_ws RX4 TX4 1, w ∈ BIG := fun w hw => by
  obtain ⟨k, hk, rfl⟩ := List.mem_map.mp hw
  have hk := List.mem_range.mp hk
  match k, hk with
  | 0, _ => exact b_182
  | k + 1, hk => exact absurd hk (by omega)
theorem i_X5 : ∀ w ∈ u_ws RX5 TX5 5, w ∈ BIG := fun w hw => by
  obtain ⟨k, hk, rfl⟩ := List.mem_map.mp hw
  have hk := List.mem_range.mp hk
  match k, hk with
  | 0, _ => exact b_183
  | 1, _ => exact b_184
  | 2, _ => exact b_185
  | 3, _ => exact b_186
  | 4, _ => exact b_187
  | k + 5, hk => exact absurd hk (by omega)
theorem i_X6 : ∀ w ∈ u_ws RX6 TX6 3, w ∈ BIG := fun w hw => by
  obtain ⟨k, hk, rfl⟩ := List.mem_map.mp hw
  have hk := List.mem_range.mp hk
  match k, hk with
  | 0, _ => exact b_188
  | 1, _ => exact b_189
  | 2, _ => exact b_190
  | k + 3, hk => exact absurd hk (by omega)
theorem i_X7 : ∀ w ∈ u_ws RX7 TX7 4, w ∈ BIG := fun w hw => by
  obtain ⟨k, hk, rfl⟩ := List.mem_map.mp hw
  have hk := List.mem_range.mp hk
  match k, hk with
  | 0, _ => exact b_191
  | 1, _ => exact b_192
  | 2, _ => exact b_193
  | 3, _ => exact b_194
  | k + 4, hk => exact absurd hk (by omega)
theorem dJ7_fill_53178_0 : decode cJ7_fill_53178 0 = .ok (.iconst 0, 1) := by decide +kernel
theorem dJ7_fill_53178_1 : decode cJ7_fill_53178 1 = .ok (.istore_n 2, 1) := by decide +kernel
theorem dJ7_fill_53178_2 : decode cJ7_fill_53178 2 = .ok (.aload_n 0, 1) := by decide +kernel
theorem dJ7_fill_53178_3 : decode cJ7_fill_53178 3 = .ok (.arraylength, 1) := by decide +kernel
theorem dJ7_fill_53178_4 : decode cJ7_fill_53178 4 = .ok (.istore_n 3, 1) := by decide +kernel
theorem dJ7_fill_53178_5 : decode cJ7_fill_53178 5 = .ok (.iload_n 2, 1) := by decide +kernel
theorem dJ7_fill_53178_6 : decode cJ7_fill_53178 6 = .ok (.iload_n 3, 1) := by decide +kernel
theorem dJ7_fill_53178_7 : decode cJ7_fill_53178 7 = .ok (.if_icmp .ge 13, 3) := by decide +kernel
theorem dJ7_fill_53178_10 : decode cJ7_fill_53178 10 = .ok (.aload_n 0, 1) := by decide +kernel
theorem dJ7_fill_53178_11 : decode cJ7_fill_53178 11 = .ok (.iload_n 2, 1) := by decide +kernel
theorem dJ7_fill_53178_12 : decode cJ7_fill_53178 12 = .ok (.iload_n 1, 1) := by decide +kernel
theorem dJ7_fill_53178_13 : decode cJ7_fill_53178 13 = .ok (.iastore, 1) := by decide +kernel
theorem dJ7_fill_53178_14 : decode cJ7_fill_53178 14 = .ok (.iinc 2 1, 3) := by decide +kernel
theorem dJ7_fill_53178_17 : decode cJ7_fill_53178 17 = .ok (.goto (-12), 3) := by decide +kernel
theorem dJ7_fill_53178_20 : decode cJ7_fill_53178 20 = .ok (.return_, 1) := by decide +kernel
theorem dX4_pain_0 : decode cX4_pain 0 = .ok (.aload_n 0, 1) := by decide +kernel
theorem dX4_pain_1 : decode cX4_pain 1 = .ok (.getfield 9, 3) := by decide +kernel
theorem dX4_pain_4 : decode cX4_pain 4 = .ok (.iload_n 2, 1) := by decide +kernel
theorem dX4_pain_5 : decode cX4_pain 5 = .ok (.iaload, 1) := by decide +kernel
theorem dX4_pain_6 : decode cX4_pain 6 = .ok (.aload_n 0, 1) := by decide +kernel
theorem dX4_pain_7 : decode cX4_pain 7 = .ok (.getfield 9, 3) := by decide +kernel
theorem dX4_pain_10 : decode cX4_pain 10 = .ok (.iload_n 1, 1) := by decide +kernel
theorem dX4_pain_11 : decode cX4_pain 11 = .ok (.iaload, 1) := by decide +kernel
theorem dX4_pain_12 : decode cX4_pain 12 = .ok (.isub, 1) := by decide +kernel
theorem dX4_pain_13 : decode cX4_pain 13 = .ok (.invokestatic 25, 3) := by decide +kernel
theorem dX4_pain_16 : decode cX4_pain 16 = .ok (.ireturn, 1) := by decide +kernel
theorem dX4_study_0 : decode cX4_study 0 = .ok (.iconst 1, 1) := by decide +kernel
theorem dX4_study_1 : decode cX4_study 1 = .ok (.istore_n 3, 1) := by decide +kernel
theorem dX4_study_2 : decode cX4_study 2 = .ok (.iload_n 3, 1) := by decide +kernel
theorem dX4_study_3 : decode cX4_study 3 = .ok (.aload_n 1, 1) := by decide +kernel
theorem dX4_study_4 : decode cX4_study 4 = .ok (.invokevirtual 15, 3) := by decide +kernel
theorem dX4_study_7 : decode cX4_study 7 = .ok (.if_icmp .gt 28, 3) := by decide +kernel
theorem dX4_study_10 : decode cX4_study 10 = .ok (.iload_n 3, 1) := by decide +kernel
theorem dX4_study_11 : decode cX4_study 11 = .ok (.sipush 256, 3) := by decide +kernel
theorem dX4_study_14 : decode cX4_study 14 = .ok (.if_icmp .ge 21, 3) := by decide +kernel
theorem dX4_study_17 : decode cX4_study 17 = .ok (.aload_n 0, 1) := by decide +kernel
theorem dX4_study_18 : decode cX4_study 18 = .ok (.getfield 9, 3) := by decide +kernel
theorem dX4_study_21 : decode cX4_study 21 = .ok (.iload_n 3, 1) := by decide +kernel
theorem dX4_study_22 : decode cX4_study 22 = .ok (.aload_n 1, 1) := by decide +kernel
theorem dX4_study_23 : decode cX4_study 23 = .ok (.iload_n 2, 1) := by decide +kernel
theorem dX4_study_24 : decode cX4_study 24 = .ok (.iload_n 3, 1) := by decide +kernel
theorem dX4_study_25 : decode cX4_study 25 = .ok (.invokevirtual 21, 3) := by decide +kernel
theorem dX4_study_28 : decode cX4_study 28 = .ok (.iastore, 1) := by decide +kernel
theorem dX4_study_29 : decode cX4_study 29 = .ok (.iinc 3 1, 3) := by decide +kernel
theorem dX4_study_32 : decode cX4_study 32 = .ok (.goto (-30), 3) := by decide +kernel
theorem dX4_study_35 : decode cX4_study 35 = .ok (.return_, 1) := by decide +kernel
theorem dX5_costBy_0 : decode cX5_costBy 0 = .ok (.aload_n 0, 1) := by decide +kernel
theorem dX5_costBy_1 : decode cX5_costBy 1 = .ok (.getfield 22, 3) := by decide +kernel
theorem dX5_costBy_4 : decode cX5_costBy 4 = .ok (.ifCond .eq 20, 3) := by decide +kernel
theorem dX5_costBy_7 : decode cX5_costBy 7 = .ok (.iload_n 3, 1) := by decide +kernel
theorem dX5_costBy_8 : decode cX5_costBy 8 = .ok (.bipush 8, 2) := by decide +kernel
theorem dX5_costBy_10 : decode cX5_costBy 10 = .ok (.if_icmp .eq 14, 3) := by decide +kernel
theorem dX5_costBy_13 : decode cX5_costBy 13 = .ok (.aload_n 1, 1) := by decide +kernel
theorem dX5_costBy_14 : decode cX5_costBy 14 = .ok (.iload_n 3, 1) := by decide +kernel
theorem dX5_costBy_15 : decode cX5_costBy 15 = .ok (.invokevirtual 74, 3) := by decide +kernel
theorem dX5_costBy_18 : decode cX5_costBy 18 = .ok (.ifCond .ne 6, 3) := by decide +kernel
theorem dX5_costBy_21 : decode cX5_costBy 21 = .ok (.ldc 40, 2) := by decide +kernel
theorem dX5_costBy_23 : decode cX5_costBy 23 = .ok (.ireturn, 1) := by decide +kernel
theorem dX5_costBy_24 : decode cX5_costBy 24 = .ok (.aload_n 1, 1) := by decide +kernel
theorem dX5_costBy_25 : decode cX5_costBy 25 = .ok (.iload 5, 2) := by decide +kernel
theorem dX5_costBy_27 : decode cX5_costBy 27 = .ok (.iload_n 3, 1) := by decide +kernel
theorem dX5_costBy_28 : decode cX5_costBy 28 = .ok (.invokevirtual 78, 3) := by decide +kernel
theorem dX5_costBy_31 : decode cX5_costBy 31 = .ok (.istore 6, 2) := by decide +kernel
theorem dX5_costBy_33 : decode cX5_costBy 33 = .ok (.aload_n 0, 1) := by decide +kernel
theorem dX5_costBy_34 : decode cX5_costBy 34 = .ok (.iload 4, 2) := by decide +kernel
theorem dX5_costBy_36 : decode cX5_costBy 36 = .ok (.iconst 1, 1) := by decide +kernel
theorem dX5_costBy_37 : decode cX5_costBy 37 = .ok (.isub, 1) := by decide +kernel
theorem dX5_costBy_38 : decode cX5_costBy 38 = .ok (.iload 6, 2) := by decide +kernel
theorem dX5_costBy_40 : decode cX5_costBy 40 = .ok (.invokevirtual 51, 3) := by decide +kernel
theorem dX5_costBy_43 : decode cX5_costBy 43 = .ok (.istore 7, 2) := by decide +kernel
theorem dX5_costBy_45 : decode cX5_costBy 45 = .ok (.iload 7, 2) := by decide +kernel
theorem dX5_costBy_47 : decode cX5_costBy 47 = .ok (.ldc 40, 2) := by decide +kernel
theorem dX5_costBy_49 : decode cX5_costBy 49 = .ok (.if_icmp .ne 6, 3) := by decide +kernel
theorem dX5_costBy_52 : decode cX5_costBy 52 = .ok (.ldc 40, 2) := by decide +kernel
theorem dX5_costBy_54 : decode cX5_costBy 54 = .ok (.ireturn, 1) := by decide +kernel
theorem dX5_costBy_55 : decode cX5_costBy 55 = .ok (.aload_n 2, 1) := by decide +kernel
theorem dX5_costBy_56 : decode cX5_costBy 56 = .ok (.iload 5, 2) := by decide +kernel
theorem dX5_costBy_58 : decode cX5_costBy 58 = .ok (.iload 6, 2) := by decide +kernel
theorem dX5_costBy_60 : decode cX5_costBy 60 = .ok (.invokevirtual 81, 3) := by decide +kernel
theorem dX5_costBy_63 : decode cX5_costBy 63 = .ok (.istore 8, 2) := by decide +kernel
theorem dX5_costBy_65 : decode cX5_costBy 65 = .ok (.aload_n 0, 1) := by decide +kernel
theorem dX5_costBy_66 : decode cX5_costBy 66 = .ok (.getfield 18, 3) := by decide +kernel
theorem dX5_costBy_69 : decode cX5_costBy 69 = .ok (.ifCond .eq 11, 3) := by decide +kernel
theorem dX5_costBy_72 : decode cX5_costBy 72 = .ok (.iload 8, 2) := by decide +kernel
theorem dX5_costBy_74 : decode cX5_costBy 74 = .ok (.iload 7, 2) := by decide +kernel
theorem dX5_costBy_76 : decode cX5_costBy 76 = .ok (.invokestatic 86, 3) := by decide +kernel
theorem dX5_costBy_79 : decode cX5_costBy 79 = .ok (.ireturn, 1) := by decide +kernel
theorem dX5_costBy_80 : decode cX5_costBy 80 = .ok (.aload_n 1, 1) := by decide +kernel
theorem dX5_costBy_81 : decode cX5_costBy 81 = .ok (.iload 8, 2) := by decide +kernel
theorem dX5_costBy_83 : decode cX5_costBy 83 = .ok (.iload 4, 2) := by decide +kernel
theorem dX5_costBy_85 : decode cX5_costBy 85 = .ok (.iconst 1, 1) := by decide +kernel
theorem dX5_costBy_86 : decode cX5_costBy 86 = .ok (.isub, 1) := by decide +kernel
theorem dX5_costBy_87 : decode cX5_costBy 87 = .ok (.invokevirtual 89, 3) := by decide +kernel
theorem dX5_costBy_90 : decode cX5_costBy 90 = .ok (.aload_n 1, 1) := by decide +kernel
theorem dX5_costBy_91 : decode cX5_costBy 91 = .ok (.iload_n 3, 1) := by decide +kernel
theorem dX5_costBy_92 : decode cX5_costBy 92 = .ok (.invokevirtual 92, 3) := by decide +kernel
theorem dX5_costBy_95 : decode cX5_costBy 95 = .ok (.iadd, 1) := by decide +kernel
theorem dX5_costBy_96 : decode cX5_costBy 96 = .ok (.iload 7, 2) := by decide +kernel
theorem dX5_costBy_98 : decode cX5_costBy 98 = .ok (.iadd, 1) := by decide +kernel
theorem dX5_costBy_99 : decode cX5_costBy 99 = .ok (.ireturn, 1) := by decide +kernel
theorem dX5_costWithDays_0 : decode cX5_costWithDays 0 = .ok (.aload_n 0, 1) := by decide +kernel
theorem dX5_costWithDays_1 : decode cX5_costWithDays 1 = .ok (.getfield 9, 3) := by decide +kernel
theorem dX5_costWithDays_4 : decode cX5_costWithDays 4 = .ok (.iload_n 1, 1) := by decide +kernel
theorem dX5_costWithDays_5 : decode cX5_costWithDays 5 = .ok (.sipush 256, 3) := by decide +kernel
theorem dX5_costWithDays_8 : decode cX5_costWithDays 8 = .ok (.imul, 1) := by decide +kernel
theorem dX5_costWithDays_9 : decode cX5_costWithDays 9 = .ok (.iload_n 2, 1) := by decide +kernel
theorem dX5_costWithDays_10 : decode cX5_costWithDays 10 = .ok (.iadd, 1) := by decide +kernel
theorem dX5_costWithDays_11 : decode cX5_costWithDays 11 = .ok (.iaload, 1) := by decide +kernel
theorem dX5_costWithDays_12 : decode cX5_costWithDays 12 = .ok (.ireturn, 1) := by decide +kernel
theorem dX5_findFirstRow_0 : decode cX5_findFirstRow 0 = .ok (.aload_n 1, 1) := by decide +kernel
theorem dX5_findFirstRow_1 : decode cX5_findFirstRow 1 = .ok (.invokevirtual 48, 3) := by decide +kernel
theorem dX5_findFirstRow_4 : decode cX5_findFirstRow 4 = .ok (.istore_n 3, 1) := by decide +kernel
theorem dX5_findFirstRow_5 : decode cX5_findFirstRow 5 = .ok (.aload_n 0, 1) := by decide +kernel
theorem dX5_findFirstRow_6 : decode cX5_findFirstRow 6 = .ok (.getfield 55, 3) := by decide +kernel
theorem dX5_findFirstRow_9 : decode cX5_findFirstRow 9 = .ok (.istore 4, 2) := by decide +kernel
theorem dX5_findFirstRow_11 : decode cX5_findFirstRow 11 = .ok (.iconst 0, 1) := by decide +kernel
theorem dX5_findFirstRow_12 : decode cX5_findFirstRow 12 = .ok (.istore 5, 2) := by decide +kernel
theorem dX5_findFirstRow_14 : decode cX5_findFirstRow 14 = .ok (.iload 5, 2) := by decide +kernel
theorem dX5_findFirstRow_16 : decode cX5_findFirstRow 16 = .ok (.aload_n 1, 1) := by decide +kernel
theorem dX5_findFirstRow_17 : decode cX5_findFirstRow 17 = .ok (.getfield 41, 3) := by decide +kernel
theorem dX5_findFirstRow_20 : decode cX5_findFirstRow 20 = .ok (.if_icmp .ge 96, 3) := by decide +kernel
theorem dX5_findFirstRow_23 : decode cX5_findFirstRow 23 = .ok (.aload_n 1, 1) := by decide +kernel
theorem dX5_findFirstRow_24 : decode cX5_findFirstRow 24 = .ok (.getfield 41, 3) := by decide +kernel
theorem dX5_findFirstRow_27 : decode cX5_findFirstRow 27 = .ok (.iload 5, 2) := by decide +kernel
theorem dX5_findFirstRow_29 : decode cX5_findFirstRow 29 = .ok (.isub, 1) := by decide +kernel
theorem dX5_findFirstRow_30 : decode cX5_findFirstRow 30 = .ok (.istore 6, 2) := by decide +kernel
theorem dX5_findFirstRow_32 : decode cX5_findFirstRow 32 = .ok (.bipush 8, 2) := by decide +kernel
theorem dX5_findFirstRow_34 : decode cX5_findFirstRow 34 = .ok (.istore 7, 2) := by decide +kernel
theorem dX5_findFirstRow_36 : decode cX5_findFirstRow 36 = .ok (.aload_n 1, 1) := by decide +kernel
theorem dX5_findFirstRow_37 : decode cX5_findFirstRow 37 = .ok (.getfield 66, 3) := by decide +kernel
theorem dX5_findFirstRow_40 : decode cX5_findFirstRow 40 = .ok (.iconst 1, 1) := by decide +kernel
theorem dX5_findFirstRow_41 : decode cX5_findFirstRow 41 = .ok (.isub, 1) := by decide +kernel
theorem dX5_findFirstRow_42 : decode cX5_findFirstRow 42 = .ok (.istore 8, 2) := by decide +kernel
theorem dX5_findFirstRow_44 : decode cX5_findFirstRow 44 = .ok (.iload 8, 2) := by decide +kernel
theorem dX5_findFirstRow_46 : decode cX5_findFirstRow 46 = .ok (.ifCond .lt 29, 3) := by decide +kernel
theorem dX5_findFirstRow_49 : decode cX5_findFirstRow 49 = .ok (.aload_n 0, 1) := by decide +kernel
theorem dX5_findFirstRow_50 : decode cX5_findFirstRow 50 = .ok (.aload_n 1, 1) := by decide +kernel
theorem dX5_findFirstRow_51 : decode cX5_findFirstRow 51 = .ok (.aload_n 2, 1) := by decide +kernel
theorem dX5_findFirstRow_52 : decode cX5_findFirstRow 52 = .ok (.iload 8, 2) := by decide +kernel
theorem dX5_findFirstRow_54 : decode cX5_findFirstRow 54 = .ok (.iload 6, 2) := by decide +kernel
theorem dX5_findFirstRow_56 : decode cX5_findFirstRow 56 = .ok (.iload_n 3, 1) := by decide +kernel
theorem dX5_findFirstRow_57 : decode cX5_findFirstRow 57 = .ok (.invokevirtual 62, 3) := by decide +kernel
theorem dX5_findFirstRow_60 : decode cX5_findFirstRow 60 = .ok (.iload 4, 2) := by decide +kernel
theorem dX5_findFirstRow_62 : decode cX5_findFirstRow 62 = .ok (.if_icmp .gt 7, 3) := by decide +kernel
theorem dX5_findFirstRow_65 : decode cX5_findFirstRow 65 = .ok (.iload 8, 2) := by decide +kernel
theorem dX5_findFirstRow_67 : decode cX5_findFirstRow 67 = .ok (.istore 7, 2) := by decide +kernel
theorem dX5_findFirstRow_69 : decode cX5_findFirstRow 69 = .ok (.iinc 8 (-1), 3) := by decide +kernel
theorem dX5_findFirstRow_72 : decode cX5_findFirstRow 72 = .ok (.goto (-28), 3) := by decide +kernel
theorem dX5_findFirstRow_75 : decode cX5_findFirstRow 75 = .ok (.aload_n 0, 1) := by decide +kernel
theorem dX5_findFirstRow_76 : decode cX5_findFirstRow 76 = .ok (.getfield 15, 3) := by decide +kernel
theorem dX5_findFirstRow_79 : decode cX5_findFirstRow 79 = .ok (.iload 5, 2) := by decide +kernel
theorem dX5_findFirstRow_81 : decode cX5_findFirstRow 81 = .ok (.iload 7, 2) := by decide +kernel
theorem dX5_findFirstRow_83 : decode cX5_findFirstRow 83 = .ok (.iastore, 1) := by decide +kernel
theorem dX5_findFirstRow_84 : decode cX5_findFirstRow 84 = .ok (.aload_n 1, 1) := by decide +kernel
theorem dX5_findFirstRow_85 : decode cX5_findFirstRow 85 = .ok (.iload_n 3, 1) := by decide +kernel
theorem dX5_findFirstRow_86 : decode cX5_findFirstRow 86 = .ok (.iload 7, 2) := by decide +kernel
theorem dX5_findFirstRow_88 : decode cX5_findFirstRow 88 = .ok (.invokevirtual 78, 3) := by decide +kernel
theorem dX5_findFirstRow_91 : decode cX5_findFirstRow 91 = .ok (.istore_n 3, 1) := by decide +kernel
theorem dX5_findFirstRow_92 : decode cX5_findFirstRow 92 = .ok (.aload_n 0, 1) := by decide +kernel
theorem dX5_findFirstRow_93 : decode cX5_findFirstRow 93 = .ok (.getfield 18, 3) := by decide +kernel
theorem dX5_findFirstRow_96 : decode cX5_findFirstRow 96 = .ok (.ifCond .ne 14, 3) := by decide +kernel
theorem dX5_findFirstRow_99 : decode cX5_findFirstRow 99 = .ok (.aload_n 0, 1) := by decide +kernel
theorem dX5_findFirstRow_100 : decode cX5_findFirstRow 100 = .ok (.iload 6, 2) := by decide +kernel
theorem dX5_findFirstRow_102 : decode cX5_findFirstRow 102 = .ok (.iconst 1, 1) := by decide +kernel
theorem dX5_findFirstRow_103 : decode cX5_findFirstRow 103 = .ok (.isub, 1) := by decide +kernel
theorem dX5_findFirstRow_104 : decode cX5_findFirstRow 104 = .ok (.iload_n 3, 1) := by decide +kernel
theorem dX5_findFirstRow_105 : decode cX5_findFirstRow 105 = .ok (.invokevirtual 51, 3) := by decide +kernel
theorem dX5_findFirstRow_108 : decode cX5_findFirstRow 108 = .ok (.istore 4, 2) := by decide +kernel
theorem dX5_findFirstRow_110 : decode cX5_findFirstRow 110 = .ok (.iinc 5 1, 3) := by decide +kernel
theorem dX5_findFirstRow_113 : decode cX5_findFirstRow 113 = .ok (.goto (-99), 3) := by decide +kernel
theorem dX5_findFirstRow_116 : decode cX5_findFirstRow 116 = .ok (.return_, 1) := by decide +kernel
theorem dX5_leastFrom_0 : decode cX5_leastFrom 0 = .ok (.aload_n 0, 1) := by decide +kernel
theorem dX5_leastFrom_1 : decode cX5_leastFrom 1 = .ok (.aload_n 1, 1) := by decide +kernel
theorem dX5_leastFrom_2 : decode cX5_leastFrom 2 = .ok (.aload_n 2, 1) := by decide +kernel
theorem dX5_leastFrom_3 : decode cX5_leastFrom 3 = .ok (.bipush 8, 2) := by decide +kernel
theorem dX5_leastFrom_5 : decode cX5_leastFrom 5 = .ok (.iload_n 3, 1) := by decide +kernel
theorem dX5_leastFrom_6 : decode cX5_leastFrom 6 = .ok (.iload 4, 2) := by decide +kernel
theorem dX5_leastFrom_8 : decode cX5_leastFrom 8 = .ok (.invokevirtual 62, 3) := by decide +kernel
theorem dX5_leastFrom_11 : decode cX5_leastFrom 11 = .ok (.istore 5, 2) := by decide +kernel
theorem dX5_leastFrom_13 : decode cX5_leastFrom 13 = .ok (.iconst 0, 1) := by decide +kernel
theorem dX5_leastFrom_14 : decode cX5_leastFrom 14 = .ok (.istore 6, 2) := by decide +kernel
theorem dX5_leastFrom_16 : decode cX5_leastFrom 16 = .ok (.iload 6, 2) := by decide +kernel
theorem dX5_leastFrom_18 : decode cX5_leastFrom 18 = .ok (.aload_n 1, 1) := by decide +kernel
theorem dX5_leastFrom_19 : decode cX5_leastFrom 19 = .ok (.getfield 66, 3) := by decide +kernel
theorem dX5_leastFrom_22 : decode cX5_leastFrom 22 = .ok (.if_icmp .ge 27, 3) := by decide +kernel
theorem dX5_leastFrom_25 : decode cX5_leastFrom 25 = .ok (.iload 5, 2) := by decide +kernel
theorem dX5_leastFrom_27 : decode cX5_leastFrom 27 = .ok (.aload_n 0, 1) := by decide +kernel
theorem dX5_leastFrom_28 : decode cX5_leastFrom 28 = .ok (.aload_n 1, 1) := by decide +kernel
theorem dX5_leastFrom_29 : decode cX5_leastFrom 29 = .ok (.aload_n 2, 1) := by decide +kernel
theorem dX5_leastFrom_30 : decode cX5_leastFrom 30 = .ok (.iload 6, 2) := by decide +kernel
theorem dX5_leastFrom_32 : decode cX5_leastFrom 32 = .ok (.iload_n 3, 1) := by decide +kernel
theorem dX5_leastFrom_33 : decode cX5_leastFrom 33 = .ok (.iload 4, 2) := by decide +kernel
theorem dX5_leastFrom_35 : decode cX5_leastFrom 35 = .ok (.invokevirtual 62, 3) := by decide +kernel
theorem dX5_leastFrom_38 : decode cX5_leastFrom 38 = .ok (.invokestatic 69, 3) := by decide +kernel
theorem dX5_leastFrom_41 : decode cX5_leastFrom 41 = .ok (.istore 5, 2) := by decide +kernel
theorem dX5_leastFrom_43 : decode cX5_leastFrom 43 = .ok (.iinc 6 1, 3) := by decide +kernel
theorem dX5_leastFrom_46 : decode cX5_leastFrom 46 = .ok (.goto (-30), 3) := by decide +kernel
theorem dX5_leastFrom_49 : decode cX5_leastFrom 49 = .ok (.iload 5, 2) := by decide +kernel
theorem dX5_leastFrom_51 : decode cX5_leastFrom 51 = .ok (.ireturn, 1) := by decide +kernel
theorem dX5_solve_0 : decode cX5_solve 0 = .ok (.aload_n 0, 1) := by decide +kernel
theorem dX5_solve_1 : decode cX5_solve 1 = .ok (.iload 4, 2) := by decide +kernel
theorem dX5_solve_3 : decode cX5_solve 3 = .ok (.putfield 18, 3) := by decide +kernel
theorem dX5_solve_6 : decode cX5_solve 6 = .ok (.aload_n 0, 1) := by decide +kernel
theorem dX5_solve_7 : decode cX5_solve 7 = .ok (.iload 5, 2) := by decide +kernel
theorem dX5_solve_9 : decode cX5_solve 9 = .ok (.putfield 22, 3) := by decide +kernel
theorem dX5_solve_12 : decode cX5_solve 12 = .ok (.iconst 0, 1) := by decide +kernel
theorem dX5_solve_13 : decode cX5_solve 13 = .ok (.istore 6, 2) := by decide +kernel
theorem dX5_solve_15 : decode cX5_solve 15 = .ok (.iload 6, 2) := by decide +kernel
theorem dX5_solve_17 : decode cX5_solve 17 = .ok (.aload_n 3, 1) := by decide +kernel
theorem dX5_solve_18 : decode cX5_solve 18 = .ok (.getfield 25, 3) := by decide +kernel
theorem dX5_solve_21 : decode cX5_solve 21 = .ok (.if_icmp .ge 40, 3) := by decide +kernel
theorem dX5_solve_24 : decode cX5_solve 24 = .ok (.aload_n 3, 1) := by decide +kernel
theorem dX5_solve_25 : decode cX5_solve 25 = .ok (.getfield 31, 3) := by decide +kernel
theorem dX5_solve_28 : decode cX5_solve 28 = .ok (.iload 6, 2) := by decide +kernel
theorem dX5_solve_30 : decode cX5_solve 30 = .ok (.iaload, 1) := by decide +kernel
theorem dX5_solve_31 : decode cX5_solve 31 = .ok (.istore 7, 2) := by decide +kernel
theorem dX5_solve_33 : decode cX5_solve 33 = .ok (.aload_n 0, 1) := by decide +kernel
theorem dX5_solve_34 : decode cX5_solve 34 = .ok (.getfield 9, 3) := by decide +kernel
theorem dX5_solve_37 : decode cX5_solve 37 = .ok (.iload 7, 2) := by decide +kernel
theorem dX5_solve_39 : decode cX5_solve 39 = .ok (.iload 7, 2) := by decide +kernel
theorem dX5_solve_41 : decode cX5_solve 41 = .ok (.aload_n 1, 1) := by decide +kernel
theorem dX5_solve_42 : decode cX5_solve 42 = .ok (.invokevirtual 34, 3) := by decide +kernel
theorem dX5_solve_45 : decode cX5_solve 45 = .ok (.if_icmp .ne 7, 3) := by decide +kernel
theorem dX5_solve_48 : decode cX5_solve 48 = .ok (.iconst 0, 1) := by decide +kernel
theorem dX5_solve_49 : decode cX5_solve 49 = .ok (.goto 5, 3) := by decide +kernel
theorem dX5_solve_52 : decode cX5_solve 52 = .ok (.ldc 40, 2) := by decide +kernel
theorem dX5_solve_54 : decode cX5_solve 54 = .ok (.iastore, 1) := by decide +kernel
theorem dX5_solve_55 : decode cX5_solve 55 = .ok (.iinc 6 1, 3) := by decide +kernel
theorem dX5_solve_58 : decode cX5_solve 58 = .ok (.goto (-43), 3) := by decide +kernel
theorem dX5_solve_61 : decode cX5_solve 61 = .ok (.iconst 1, 1) := by decide +kernel
theorem dX5_solve_62 : decode cX5_solve 62 = .ok (.istore 6, 2) := by decide +kernel
theorem dX5_solve_64 : decode cX5_solve 64 = .ok (.iload 6, 2) := by decide +kernel
theorem dX5_solve_66 : decode cX5_solve 66 = .ok (.aload_n 1, 1) := by decide +kernel
theorem dX5_solve_67 : decode cX5_solve 67 = .ok (.getfield 41, 3) := by decide +kernel
theorem dX5_solve_70 : decode cX5_solve 70 = .ok (.if_icmp .gt 60, 3) := by decide +kernel
theorem dX5_solve_73 : decode cX5_solve 73 = .ok (.iconst 0, 1) := by decide +kernel
theorem dX5_solve_74 : decode cX5_solve 74 = .ok (.istore 7, 2) := by decide +kernel
theorem dX5_solve_76 : decode cX5_solve 76 = .ok (.iload 7, 2) := by decide +kernel
theorem dX5_solve_78 : decode cX5_solve 78 = .ok (.aload_n 3, 1) := by decide +kernel
theorem dX5_solve_79 : decode cX5_solve 79 = .ok (.getfield 25, 3) := by decide +kernel
theorem dX5_solve_82 : decode cX5_solve 82 = .ok (.if_icmp .ge 42, 3) := by decide +kernel
theorem dX5_solve_85 : decode cX5_solve 85 = .ok (.aload_n 3, 1) := by decide +kernel
theorem dX5_solve_86 : decode cX5_solve 86 = .ok (.getfield 31, 3) := by decide +kernel
theorem dX5_solve_89 : decode cX5_solve 89 = .ok (.iload 7, 2) := by decide +kernel
theorem dX5_solve_91 : decode cX5_solve 91 = .ok (.iaload, 1) := by decide +kernel
theorem dX5_solve_92 : decode cX5_solve 92 = .ok (.istore 8, 2) := by decide +kernel
theorem dX5_solve_94 : decode cX5_solve 94 = .ok (.aload_n 0, 1) := by decide +kernel
theorem dX5_solve_95 : decode cX5_solve 95 = .ok (.getfield 9, 3) := by decide +kernel
theorem dX5_solve_98 : decode cX5_solve 98 = .ok (.iload 6, 2) := by decide +kernel
theorem dX5_solve_100 : decode cX5_solve 100 = .ok (.sipush 256, 3) := by decide +kernel
theorem dX5_solve_103 : decode cX5_solve 103 = .ok (.imul, 1) := by decide +kernel
theorem dX5_solve_104 : decode cX5_solve 104 = .ok (.iload 8, 2) := by decide +kernel
theorem dX5_solve_106 : decode cX5_solve 106 = .ok (.iadd, 1) := by decide +kernel
theorem dX5_solve_107 : decode cX5_solve 107 = .ok (.aload_n 0, 1) := by decide +kernel
theorem dX5_solve_108 : decode cX5_solve 108 = .ok (.aload_n 1, 1) := by decide +kernel
theorem dX5_solve_109 : decode cX5_solve 109 = .ok (.aload_n 2, 1) := by decide +kernel
theorem dX5_solve_110 : decode cX5_solve 110 = .ok (.iload 6, 2) := by decide +kernel
theorem dX5_solve_112 : decode cX5_solve 112 = .ok (.iload 8, 2) := by decide +kernel
theorem dX5_solve_114 : decode cX5_solve 114 = .ok (.invokevirtual 44, 3) := by decide +kernel
theorem dX5_solve_117 : decode cX5_solve 117 = .ok (.iastore, 1) := by decide +kernel
theorem dX5_solve_118 : decode cX5_solve 118 = .ok (.iinc 7 1, 3) := by decide +kernel
theorem dX5_solve_121 : decode cX5_solve 121 = .ok (.goto (-45), 3) := by decide +kernel
theorem dX5_solve_124 : decode cX5_solve 124 = .ok (.iinc 6 1, 3) := by decide +kernel
theorem dX5_solve_127 : decode cX5_solve 127 = .ok (.goto (-63), 3) := by decide +kernel
theorem dX5_solve_130 : decode cX5_solve 130 = .ok (.aload_n 0, 1) := by decide +kernel
theorem dX5_solve_131 : decode cX5_solve 131 = .ok (.aload_n 1, 1) := by decide +kernel
theorem dX5_solve_132 : decode cX5_solve 132 = .ok (.getfield 41, 3) := by decide +kernel
theorem dX5_solve_135 : decode cX5_solve 135 = .ok (.aload_n 1, 1) := by decide +kernel
theorem dX5_solve_136 : decode cX5_solve 136 = .ok (.invokevirtual 48, 3) := by decide +kernel
theorem dX5_solve_139 : decode cX5_solve 139 = .ok (.invokevirtual 51, 3) := by decide +kernel
theorem dX5_solve_142 : decode cX5_solve 142 = .ok (.istore 6, 2) := by decide +kernel
theorem dX5_solve_144 : decode cX5_solve 144 = .ok (.aload_n 0, 1) := by decide +kernel
theorem dX5_solve_145 : decode cX5_solve 145 = .ok (.iload 6, 2) := by decide +kernel
theorem dX5_solve_147 : decode cX5_solve 147 = .ok (.ldc 40, 2) := by decide +kernel
theorem dX5_solve_149 : decode cX5_solve 149 = .ok (.if_icmp .ne 7, 3) := by decide +kernel
theorem dX5_solve_152 : decode cX5_solve 152 = .ok (.iconst (-1), 1) := by decide +kernel
theorem dX5_solve_153 : decode cX5_solve 153 = .ok (.goto 5, 3) := by decide +kernel
theorem dX5_solve_156 : decode cX5_solve 156 = .ok (.iload 6, 2) := by decide +kernel
theorem dX5_solve_158 : decode cX5_solve 158 = .ok (.putfield 55, 3) := by decide +kernel
theorem dX5_solve_161 : decode cX5_solve 161 = .ok (.aload_n 0, 1) := by decide +kernel
theorem dX5_solve_162 : decode cX5_solve 162 = .ok (.getfield 55, 3) := by decide +kernel
theorem dX5_solve_165 : decode cX5_solve 165 = .ok (.iconst (-1), 1) := by decide +kernel
theorem dX5_solve_166 : decode cX5_solve 166 = .ok (.if_icmp .eq 9, 3) := by decide +kernel
theorem dX5_solve_169 : decode cX5_solve 169 = .ok (.aload_n 0, 1) := by decide +kernel
theorem dX5_solve_170 : decode cX5_solve 170 = .ok (.aload_n 1, 1) := by decide +kernel
theorem dX5_solve_171 : decode cX5_solve 171 = .ok (.aload_n 2, 1) := by decide +kernel
theorem dX5_solve_172 : decode cX5_solve 172 = .ok (.invokevirtual 58, 3) := by decide +kernel
theorem dX5_solve_175 : decode cX5_solve 175 = .ok (.return_, 1) := by decide +kernel
theorem dX5_wordsUsed_0 : decode cX5_wordsUsed 0 = .ok (.iconst 0, 1) := by decide +kernel
theorem dX5_wordsUsed_1 : decode cX5_wordsUsed 1 = .ok (.istore_n 2, 1) := by decide +kernel
theorem dX5_wordsUsed_2 : decode cX5_wordsUsed 2 = .ok (.iconst 0, 1) := by decide +kernel
theorem dX5_wordsUsed_3 : decode cX5_wordsUsed 3 = .ok (.istore_n 3, 1) := by decide +kernel
theorem dX5_wordsUsed_4 : decode cX5_wordsUsed 4 = .ok (.iload_n 3, 1) := by decide +kernel
theorem dX5_wordsUsed_5 : decode cX5_wordsUsed 5 = .ok (.iload_n 1, 1) := by decide +kernel
theorem dX5_wordsUsed_6 : decode cX5_wordsUsed 6 = .ok (.if_icmp .ge 31, 3) := by decide +kernel
theorem dX5_wordsUsed_9 : decode cX5_wordsUsed 9 = .ok (.aload_n 0, 1) := by decide +kernel
theorem dX5_wordsUsed_10 : decode cX5_wordsUsed 10 = .ok (.getfield 15, 3) := by decide +kernel
theorem dX5_wordsUsed_13 : decode cX5_wordsUsed 13 = .ok (.iload_n 3, 1) := by decide +kernel
theorem dX5_wordsUsed_14 : decode cX5_wordsUsed 14 = .ok (.iaload, 1) := by decide +kernel
theorem dX5_wordsUsed_15 : decode cX5_wordsUsed 15 = .ok (.bipush 8, 2) := by decide +kernel
theorem dX5_wordsUsed_17 : decode cX5_wordsUsed 17 = .ok (.if_icmp .eq 14, 3) := by decide +kernel
theorem dX5_wordsUsed_20 : decode cX5_wordsUsed 20 = .ok (.iload_n 2, 1) := by decide +kernel
theorem dX5_wordsUsed_21 : decode cX5_wordsUsed 21 = .ok (.iconst 1, 1) := by decide +kernel
theorem dX5_wordsUsed_22 : decode cX5_wordsUsed 22 = .ok (.aload_n 0, 1) := by decide +kernel
theorem dX5_wordsUsed_23 : decode cX5_wordsUsed 23 = .ok (.getfield 15, 3) := by decide +kernel
theorem dX5_wordsUsed_26 : decode cX5_wordsUsed 26 = .ok (.iload_n 3, 1) := by decide +kernel
theorem dX5_wordsUsed_27 : decode cX5_wordsUsed 27 = .ok (.iaload, 1) := by decide +kernel
theorem dX5_wordsUsed_28 : decode cX5_wordsUsed 28 = .ok (.ishl, 1) := by decide +kernel
theorem dX5_wordsUsed_29 : decode cX5_wordsUsed 29 = .ok (.ior, 1) := by decide +kernel
theorem dX5_wordsUsed_30 : decode cX5_wordsUsed 30 = .ok (.istore_n 2, 1) := by decide +kernel
theorem dX5_wordsUsed_31 : decode cX5_wordsUsed 31 = .ok (.iinc 3 1, 3) := by decide +kernel
theorem dX5_wordsUsed_34 : decode cX5_wordsUsed 34 = .ok (.goto (-30), 3) := by decide +kernel
theorem dX5_wordsUsed_37 : decode cX5_wordsUsed 37 = .ok (.iload_n 2, 1) := by decide +kernel
theorem dX5_wordsUsed_38 : decode cX5_wordsUsed 38 = .ok (.ireturn, 1) := by decide +kernel
theorem dX6_add_0 : decode cX6_add 0 = .ok (.aload_n 0, 1) := by decide +kernel
theorem dX6_add_1 : decode cX6_add 1 = .ok (.getfield 15, 3) := by decide +kernel
theorem dX6_add_4 : decode cX6_add 4 = .ok (.iload_n 1, 1) := by decide +kernel
theorem dX6_add_5 : decode cX6_add 5 = .ok (.iaload, 1) := by decide +kernel
theorem dX6_add_6 : decode cX6_add 6 = .ok (.ldc 18, 2) := by decide +kernel
theorem dX6_add_8 : decode cX6_add 8 = .ok (.if_icmp .ne 40, 3) := by decide +kernel
theorem dX6_add_11 : decode cX6_add 11 = .ok (.aload_n 0, 1) := by decide +kernel
theorem dX6_add_12 : decode cX6_add 12 = .ok (.getfield 25, 3) := by decide +kernel
theorem dX6_add_15 : decode cX6_add 15 = .ok (.sipush 256, 3) := by decide +kernel
theorem dX6_add_18 : decode cX6_add 18 = .ok (.if_icmp .ge 30, 3) := by decide +kernel
theorem dX6_add_21 : decode cX6_add 21 = .ok (.aload_n 0, 1) := by decide +kernel
theorem dX6_add_22 : decode cX6_add 22 = .ok (.getfield 15, 3) := by decide +kernel
theorem dX6_add_25 : decode cX6_add 25 = .ok (.iload_n 1, 1) := by decide +kernel
theorem dX6_add_26 : decode cX6_add 26 = .ok (.iload_n 2, 1) := by decide +kernel
theorem dX6_add_27 : decode cX6_add 27 = .ok (.iastore, 1) := by decide +kernel
theorem dX6_add_28 : decode cX6_add 28 = .ok (.aload_n 0, 1) := by decide +kernel
theorem dX6_add_29 : decode cX6_add 29 = .ok (.getfield 9, 3) := by decide +kernel
theorem dX6_add_32 : decode cX6_add 32 = .ok (.aload_n 0, 1) := by decide +kernel
theorem dX6_add_33 : decode cX6_add 33 = .ok (.getfield 25, 3) := by decide +kernel
theorem dX6_add_36 : decode cX6_add 36 = .ok (.iload_n 1, 1) := by decide +kernel
theorem dX6_add_37 : decode cX6_add 37 = .ok (.iastore, 1) := by decide +kernel
theorem dX6_add_38 : decode cX6_add 38 = .ok (.aload_n 0, 1) := by decide +kernel
theorem dX6_add_39 : decode cX6_add 39 = .ok (.dup, 1) := by decide +kernel
theorem dX6_add_40 : decode cX6_add 40 = .ok (.getfield 25, 3) := by decide +kernel
theorem dX6_add_43 : decode cX6_add 43 = .ok (.iconst 1, 1) := by decide +kernel
theorem dX6_add_44 : decode cX6_add 44 = .ok (.iadd, 1) := by decide +kernel
theorem dX6_add_45 : decode cX6_add 45 = .ok (.putfield 25, 3) := by decide +kernel
theorem dX6_add_48 : decode cX6_add 48 = .ok (.return_, 1) := by decide +kernel
theorem dX6_grow_0 : decode cX6_grow 0 = .ok (.aload_n 0, 1) := by decide +kernel
theorem dX6_grow_1 : decode cX6_grow 1 = .ok (.getfield 15, 3) := by decide +kernel
theorem dX6_grow_4 : decode cX6_grow 4 = .ok (.ldc 18, 2) := by decide +kernel
theorem dX6_grow_6 : decode cX6_grow 6 = .ok (.invokestatic 19, 3) := by decide +kernel
theorem dX6_grow_9 : decode cX6_grow 9 = .ok (.aload_n 0, 1) := by decide +kernel
theorem dX6_grow_10 : decode cX6_grow 10 = .ok (.iconst 0, 1) := by decide +kernel
theorem dX6_grow_11 : decode cX6_grow 11 = .ok (.putfield 25, 3) := by decide +kernel
theorem dX6_grow_14 : decode cX6_grow 14 = .ok (.aload_n 0, 1) := by decide +kernel
theorem dX6_grow_15 : decode cX6_grow 15 = .ok (.iload_n 2, 1) := by decide +kernel
theorem dX6_grow_16 : decode cX6_grow 16 = .ok (.iconst 0, 1) := by decide +kernel
theorem dX6_grow_17 : decode cX6_grow 17 = .ok (.invokevirtual 29, 3) := by decide +kernel
theorem dX6_grow_20 : decode cX6_grow 20 = .ok (.iconst 0, 1) := by decide +kernel
theorem dX6_grow_21 : decode cX6_grow 21 = .ok (.istore_n 3, 1) := by decide +kernel
theorem dX6_grow_22 : decode cX6_grow 22 = .ok (.iload_n 3, 1) := by decide +kernel
theorem dX6_grow_23 : decode cX6_grow 23 = .ok (.aload_n 0, 1) := by decide +kernel
theorem dX6_grow_24 : decode cX6_grow 24 = .ok (.getfield 25, 3) := by decide +kernel
theorem dX6_grow_27 : decode cX6_grow 27 = .ok (.if_icmp .ge 63, 3) := by decide +kernel
theorem dX6_grow_30 : decode cX6_grow 30 = .ok (.iload_n 3, 1) := by decide +kernel
theorem dX6_grow_31 : decode cX6_grow 31 = .ok (.sipush 256, 3) := by decide +kernel
theorem dX6_grow_34 : decode cX6_grow 34 = .ok (.if_icmp .ge 56, 3) := by decide +kernel
theorem dX6_grow_37 : decode cX6_grow 37 = .ok (.aload_n 0, 1) := by decide +kernel
theorem dX6_grow_38 : decode cX6_grow 38 = .ok (.getfield 9, 3) := by decide +kernel
theorem dX6_grow_41 : decode cX6_grow 41 = .ok (.iload_n 3, 1) := by decide +kernel
theorem dX6_grow_42 : decode cX6_grow 42 = .ok (.iaload, 1) := by decide +kernel
theorem dX6_grow_43 : decode cX6_grow 43 = .ok (.istore 4, 2) := by decide +kernel
theorem dX6_grow_45 : decode cX6_grow 45 = .ok (.iconst 0, 1) := by decide +kernel
theorem dX6_grow_46 : decode cX6_grow 46 = .ok (.istore 5, 2) := by decide +kernel
theorem dX6_grow_48 : decode cX6_grow 48 = .ok (.iload 5, 2) := by decide +kernel
theorem dX6_grow_50 : decode cX6_grow 50 = .ok (.aload_n 1, 1) := by decide +kernel
theorem dX6_grow_51 : decode cX6_grow 51 = .ok (.getfield 33, 3) := by decide +kernel
theorem dX6_grow_54 : decode cX6_grow 54 = .ok (.if_icmp .ge 30, 3) := by decide +kernel
theorem dX6_grow_57 : decode cX6_grow 57 = .ok (.aload_n 0, 1) := by decide +kernel
theorem dX6_grow_58 : decode cX6_grow 58 = .ok (.aload_n 1, 1) := by decide +kernel
theorem dX6_grow_59 : decode cX6_grow 59 = .ok (.iload 4, 2) := by decide +kernel
theorem dX6_grow_61 : decode cX6_grow 61 = .ok (.iload 5, 2) := by decide +kernel
theorem dX6_grow_63 : decode cX6_grow 63 = .ok (.invokevirtual 38, 3) := by decide +kernel
theorem dX6_grow_66 : decode cX6_grow 66 = .ok (.aload_n 0, 1) := by decide +kernel
theorem dX6_grow_67 : decode cX6_grow 67 = .ok (.getfield 15, 3) := by decide +kernel
theorem dX6_grow_70 : decode cX6_grow 70 = .ok (.iload 4, 2) := by decide +kernel
theorem dX6_grow_72 : decode cX6_grow 72 = .ok (.iaload, 1) := by decide +kernel
theorem dX6_grow_73 : decode cX6_grow 73 = .ok (.iconst 1, 1) := by decide +kernel
theorem dX6_grow_74 : decode cX6_grow 74 = .ok (.iadd, 1) := by decide +kernel
theorem dX6_grow_75 : decode cX6_grow 75 = .ok (.invokevirtual 29, 3) := by decide +kernel
theorem dX6_grow_78 : decode cX6_grow 78 = .ok (.iinc 5 1, 3) := by decide +kernel
theorem dX6_grow_81 : decode cX6_grow 81 = .ok (.goto (-33), 3) := by decide +kernel
theorem dX6_grow_84 : decode cX6_grow 84 = .ok (.iinc 3 1, 3) := by decide +kernel
theorem dX6_grow_87 : decode cX6_grow 87 = .ok (.goto (-65), 3) := by decide +kernel
theorem dX6_grow_90 : decode cX6_grow 90 = .ok (.return_, 1) := by decide +kernel
theorem dX7_choose_0 : decode cX7_choose 0 = .ok (.aload_n 0, 1) := by decide +kernel
theorem dX7_choose_1 : decode cX7_choose 1 = .ok (.aload_n 0, 1) := by decide +kernel
theorem dX7_choose_2 : decode cX7_choose 2 = .ok (.getfield 9, 3) := by decide +kernel
theorem dX7_choose_5 : decode cX7_choose 5 = .ok (.iload 4, 2) := by decide +kernel
theorem dX7_choose_7 : decode cX7_choose 7 = .ok (.iaload, 1) := by decide +kernel
theorem dX7_choose_8 : decode cX7_choose 8 = .ok (.putfield 50, 3) := by decide +kernel
theorem dX7_choose_11 : decode cX7_choose 11 = .ok (.aload_n 0, 1) := by decide +kernel
theorem dX7_choose_12 : decode cX7_choose 12 = .ok (.bipush 8, 2) := by decide +kernel
theorem dX7_choose_14 : decode cX7_choose 14 = .ok (.putfield 62, 3) := by decide +kernel
theorem dX7_choose_17 : decode cX7_choose 17 = .ok (.aload_n 1, 1) := by decide +kernel
theorem dX7_choose_18 : decode cX7_choose 18 = .ok (.getfield 65, 3) := by decide +kernel
theorem dX7_choose_21 : decode cX7_choose 21 = .ok (.iconst 1, 1) := by decide +kernel
theorem dX7_choose_22 : decode cX7_choose 22 = .ok (.isub, 1) := by decide +kernel
theorem dX7_choose_23 : decode cX7_choose 23 = .ok (.istore 5, 2) := by decide +kernel
theorem dX7_choose_25 : decode cX7_choose 25 = .ok (.iload 5, 2) := by decide +kernel
theorem dX7_choose_27 : decode cX7_choose 27 = .ok (.ifCond .lt 81, 3) := by decide +kernel
theorem dX7_choose_30 : decode cX7_choose 30 = .ok (.aload_n 1, 1) := by decide +kernel
theorem dX7_choose_31 : decode cX7_choose 31 = .ok (.iload 4, 2) := by decide +kernel
theorem dX7_choose_33 : decode cX7_choose 33 = .ok (.iload 5, 2) := by decide +kernel
theorem dX7_choose_35 : decode cX7_choose 35 = .ok (.invokevirtual 68, 3) := by decide +kernel
theorem dX7_choose_38 : decode cX7_choose 38 = .ok (.istore 6, 2) := by decide +kernel
theorem dX7_choose_40 : decode cX7_choose 40 = .ok (.aload_n 1, 1) := by decide +kernel
theorem dX7_choose_41 : decode cX7_choose 41 = .ok (.aload_n 2, 1) := by decide +kernel
theorem dX7_choose_42 : decode cX7_choose 42 = .ok (.iload 4, 2) := by decide +kernel
theorem dX7_choose_44 : decode cX7_choose 44 = .ok (.iload 6, 2) := by decide +kernel
theorem dX7_choose_46 : decode cX7_choose 46 = .ok (.invokevirtual 41, 3) := by decide +kernel
theorem dX7_choose_49 : decode cX7_choose 49 = .ok (.aload_n 1, 1) := by decide +kernel
theorem dX7_choose_50 : decode cX7_choose 50 = .ok (.getfield 34, 3) := by decide +kernel
theorem dX7_choose_53 : decode cX7_choose 53 = .ok (.iconst 1, 1) := by decide +kernel
theorem dX7_choose_54 : decode cX7_choose 54 = .ok (.isub, 1) := by decide +kernel
theorem dX7_choose_55 : decode cX7_choose 55 = .ok (.iload_n 3, 1) := by decide +kernel
theorem dX7_choose_56 : decode cX7_choose 56 = .ok (.isub, 1) := by decide +kernel
theorem dX7_choose_57 : decode cX7_choose 57 = .ok (.invokevirtual 47, 3) := by decide +kernel
theorem dX7_choose_60 : decode cX7_choose 60 = .ok (.istore 7, 2) := by decide +kernel
theorem dX7_choose_62 : decode cX7_choose 62 = .ok (.iload 7, 2) := by decide +kernel
theorem dX7_choose_64 : decode cX7_choose 64 = .ok (.aload_n 1, 1) := by decide +kernel
theorem dX7_choose_65 : decode cX7_choose 65 = .ok (.iload 5, 2) := by decide +kernel
theorem dX7_choose_67 : decode cX7_choose 67 = .ok (.invokevirtual 71, 3) := by decide +kernel
theorem dX7_choose_70 : decode cX7_choose 70 = .ok (.iadd, 1) := by decide +kernel
theorem dX7_choose_71 : decode cX7_choose 71 = .ok (.aload_n 0, 1) := by decide +kernel
theorem dX7_choose_72 : decode cX7_choose 72 = .ok (.getfield 9, 3) := by decide +kernel
theorem dX7_choose_75 : decode cX7_choose 75 = .ok (.iload 6, 2) := by decide +kernel
theorem dX7_choose_77 : decode cX7_choose 77 = .ok (.iaload, 1) := by decide +kernel
theorem dX7_choose_78 : decode cX7_choose 78 = .ok (.iadd, 1) := by decide +kernel
theorem dX7_choose_79 : decode cX7_choose 79 = .ok (.istore 8, 2) := by decide +kernel
theorem dX7_choose_81 : decode cX7_choose 81 = .ok (.iload 8, 2) := by decide +kernel
theorem dX7_choose_83 : decode cX7_choose 83 = .ok (.aload_n 0, 1) := by decide +kernel
theorem dX7_choose_84 : decode cX7_choose 84 = .ok (.getfield 50, 3) := by decide +kernel
theorem dX7_choose_87 : decode cX7_choose 87 = .ok (.if_icmp .gt 15, 3) := by decide +kernel
theorem dX7_choose_90 : decode cX7_choose 90 = .ok (.aload_n 0, 1) := by decide +kernel
theorem dX7_choose_91 : decode cX7_choose 91 = .ok (.iload 8, 2) := by decide +kernel
theorem dX7_choose_93 : decode cX7_choose 93 = .ok (.putfield 50, 3) := by decide +kernel
theorem dX7_choose_96 : decode cX7_choose 96 = .ok (.aload_n 0, 1) := by decide +kernel
theorem dX7_choose_97 : decode cX7_choose 97 = .ok (.iload 5, 2) := by decide +kernel
theorem dX7_choose_99 : decode cX7_choose 99 = .ok (.putfield 62, 3) := by decide +kernel
theorem dX7_choose_102 : decode cX7_choose 102 = .ok (.iinc 5 (-1), 3) := by decide +kernel
theorem dX7_choose_105 : decode cX7_choose 105 = .ok (.goto (-80), 3) := by decide +kernel
theorem dX7_choose_108 : decode cX7_choose 108 = .ok (.return_, 1) := by decide +kernel
theorem dX7_weigh_0 : decode cX7_weigh 0 = .ok (.iconst 0, 1) := by decide +kernel
theorem dX7_weigh_1 : decode cX7_weigh 1 = .ok (.istore 6, 2) := by decide +kernel
theorem dX7_weigh_3 : decode cX7_weigh 3 = .ok (.iload 6, 2) := by decide +kernel
theorem dX7_weigh_5 : decode cX7_weigh 5 = .ok (.aload_n 3, 1) := by decide +kernel
theorem dX7_weigh_6 : decode cX7_weigh 6 = .ok (.getfield 18, 3) := by decide +kernel
theorem dX7_weigh_9 : decode cX7_weigh 9 = .ok (.if_icmp .ge 40, 3) := by decide +kernel
theorem dX7_weigh_12 : decode cX7_weigh 12 = .ok (.aload_n 3, 1) := by decide +kernel
theorem dX7_weigh_13 : decode cX7_weigh 13 = .ok (.getfield 24, 3) := by decide +kernel
theorem dX7_weigh_16 : decode cX7_weigh 16 = .ok (.iload 6, 2) := by decide +kernel
theorem dX7_weigh_18 : decode cX7_weigh 18 = .ok (.iaload, 1) := by decide +kernel
theorem dX7_weigh_19 : decode cX7_weigh 19 = .ok (.istore 7, 2) := by decide +kernel
theorem dX7_weigh_21 : decode cX7_weigh 21 = .ok (.aload_n 0, 1) := by decide +kernel
theorem dX7_weigh_22 : decode cX7_weigh 22 = .ok (.getfield 9, 3) := by decide +kernel
theorem dX7_weigh_25 : decode cX7_weigh 25 = .ok (.iload 7, 2) := by decide +kernel
theorem dX7_weigh_27 : decode cX7_weigh 27 = .ok (.iload 7, 2) := by decide +kernel
theorem dX7_weigh_29 : decode cX7_weigh 29 = .ok (.aload_n 1, 1) := by decide +kernel
theorem dX7_weigh_30 : decode cX7_weigh 30 = .ok (.invokevirtual 27, 3) := by decide +kernel
theorem dX7_weigh_33 : decode cX7_weigh 33 = .ok (.if_icmp .ne 7, 3) := by decide +kernel
theorem dX7_weigh_36 : decode cX7_weigh 36 = .ok (.iconst 0, 1) := by decide +kernel
theorem dX7_weigh_37 : decode cX7_weigh 37 = .ok (.goto 5, 3) := by decide +kernel
theorem dX7_weigh_40 : decode cX7_weigh 40 = .ok (.ldc 33, 2) := by decide +kernel
theorem dX7_weigh_42 : decode cX7_weigh 42 = .ok (.iastore, 1) := by decide +kernel
theorem dX7_weigh_43 : decode cX7_weigh 43 = .ok (.iinc 6 1, 3) := by decide +kernel
theorem dX7_weigh_46 : decode cX7_weigh 46 = .ok (.goto (-43), 3) := by decide +kernel
theorem dX7_weigh_49 : decode cX7_weigh 49 = .ok (.aload_n 1, 1) := by decide +kernel
theorem dX7_weigh_50 : decode cX7_weigh 50 = .ok (.getfield 34, 3) := by decide +kernel
theorem dX7_weigh_53 : decode cX7_weigh 53 = .ok (.iconst 1, 1) := by decide +kernel
theorem dX7_weigh_54 : decode cX7_weigh 54 = .ok (.isub, 1) := by decide +kernel
theorem dX7_weigh_55 : decode cX7_weigh 55 = .ok (.istore 6, 2) := by decide +kernel
theorem dX7_weigh_57 : decode cX7_weigh 57 = .ok (.iload 6, 2) := by decide +kernel
theorem dX7_weigh_59 : decode cX7_weigh 59 = .ok (.iload 4, 2) := by decide +kernel
theorem dX7_weigh_61 : decode cX7_weigh 61 = .ok (.if_icmp .le 104, 3) := by decide +kernel
theorem dX7_weigh_64 : decode cX7_weigh 64 = .ok (.iconst 0, 1) := by decide +kernel
theorem dX7_weigh_65 : decode cX7_weigh 65 = .ok (.istore 7, 2) := by decide +kernel
theorem dX7_weigh_67 : decode cX7_weigh 67 = .ok (.iload 7, 2) := by decide +kernel
theorem dX7_weigh_69 : decode cX7_weigh 69 = .ok (.aload_n 3, 1) := by decide +kernel
theorem dX7_weigh_70 : decode cX7_weigh 70 = .ok (.getfield 18, 3) := by decide +kernel
theorem dX7_weigh_73 : decode cX7_weigh 73 = .ok (.if_icmp .ge 70, 3) := by decide +kernel
theorem dX7_weigh_76 : decode cX7_weigh 76 = .ok (.aload_n 3, 1) := by decide +kernel
theorem dX7_weigh_77 : decode cX7_weigh 77 = .ok (.getfield 24, 3) := by decide +kernel
theorem dX7_weigh_80 : decode cX7_weigh 80 = .ok (.iload 7, 2) := by decide +kernel
theorem dX7_weigh_82 : decode cX7_weigh 82 = .ok (.iaload, 1) := by decide +kernel
theorem dX7_weigh_83 : decode cX7_weigh 83 = .ok (.istore 8, 2) := by decide +kernel
theorem dX7_weigh_85 : decode cX7_weigh 85 = .ok (.aload_n 0, 1) := by decide +kernel
theorem dX7_weigh_86 : decode cX7_weigh 86 = .ok (.aload_n 1, 1) := by decide +kernel
theorem dX7_weigh_87 : decode cX7_weigh 87 = .ok (.aload_n 2, 1) := by decide +kernel
theorem dX7_weigh_88 : decode cX7_weigh 88 = .ok (.iload 6, 2) := by decide +kernel
theorem dX7_weigh_90 : decode cX7_weigh 90 = .ok (.iload 8, 2) := by decide +kernel
theorem dX7_weigh_92 : decode cX7_weigh 92 = .ok (.invokevirtual 37, 3) := by decide +kernel
theorem dX7_weigh_95 : decode cX7_weigh 95 = .ok (.aload_n 1, 1) := by decide +kernel
theorem dX7_weigh_96 : decode cX7_weigh 96 = .ok (.aload_n 2, 1) := by decide +kernel
theorem dX7_weigh_97 : decode cX7_weigh 97 = .ok (.iload 8, 2) := by decide +kernel
theorem dX7_weigh_99 : decode cX7_weigh 99 = .ok (.aload_n 1, 1) := by decide +kernel
theorem dX7_weigh_100 : decode cX7_weigh 100 = .ok (.invokevirtual 27, 3) := by decide +kernel
theorem dX7_weigh_103 : decode cX7_weigh 103 = .ok (.invokevirtual 41, 3) := by decide +kernel
theorem dX7_weigh_106 : decode cX7_weigh 106 = .ok (.aload_n 1, 1) := by decide +kernel
theorem dX7_weigh_107 : decode cX7_weigh 107 = .ok (.getfield 34, 3) := by decide +kernel
theorem dX7_weigh_110 : decode cX7_weigh 110 = .ok (.iconst 1, 1) := by decide +kernel
theorem dX7_weigh_111 : decode cX7_weigh 111 = .ok (.isub, 1) := by decide +kernel
theorem dX7_weigh_112 : decode cX7_weigh 112 = .ok (.iload 6, 2) := by decide +kernel
theorem dX7_weigh_114 : decode cX7_weigh 114 = .ok (.isub, 1) := by decide +kernel
theorem dX7_weigh_115 : decode cX7_weigh 115 = .ok (.invokevirtual 47, 3) := by decide +kernel
theorem dX7_weigh_118 : decode cX7_weigh 118 = .ok (.istore 9, 2) := by decide +kernel
theorem dX7_weigh_120 : decode cX7_weigh 120 = .ok (.aload_n 0, 1) := by decide +kernel
theorem dX7_weigh_121 : decode cX7_weigh 121 = .ok (.getfield 15, 3) := by decide +kernel
theorem dX7_weigh_124 : decode cX7_weigh 124 = .ok (.iload 8, 2) := by decide +kernel
theorem dX7_weigh_126 : decode cX7_weigh 126 = .ok (.aload_n 1, 1) := by decide +kernel
theorem dX7_weigh_127 : decode cX7_weigh 127 = .ok (.iload 9, 2) := by decide +kernel
theorem dX7_weigh_129 : decode cX7_weigh 129 = .ok (.aload_n 0, 1) := by decide +kernel
theorem dX7_weigh_130 : decode cX7_weigh 130 = .ok (.getfield 50, 3) := by decide +kernel
theorem dX7_weigh_133 : decode cX7_weigh 133 = .ok (.invokevirtual 53, 3) := by decide +kernel
theorem dX7_weigh_136 : decode cX7_weigh 136 = .ok (.iastore, 1) := by decide +kernel
theorem dX7_weigh_137 : decode cX7_weigh 137 = .ok (.iinc 7 1, 3) := by decide +kernel
theorem dX7_weigh_140 : decode cX7_weigh 140 = .ok (.goto (-73), 3) := by decide +kernel
theorem dX7_weigh_143 : decode cX7_weigh 143 = .ok (.aload_n 0, 1) := by decide +kernel
theorem dX7_weigh_144 : decode cX7_weigh 144 = .ok (.getfield 15, 3) := by decide +kernel
theorem dX7_weigh_147 : decode cX7_weigh 147 = .ok (.iconst 0, 1) := by decide +kernel
theorem dX7_weigh_148 : decode cX7_weigh 148 = .ok (.aload_n 0, 1) := by decide +kernel
theorem dX7_weigh_149 : decode cX7_weigh 149 = .ok (.getfield 9, 3) := by decide +kernel
theorem dX7_weigh_152 : decode cX7_weigh 152 = .ok (.iconst 0, 1) := by decide +kernel
theorem dX7_weigh_153 : decode cX7_weigh 153 = .ok (.sipush 256, 3) := by decide +kernel
theorem dX7_weigh_156 : decode cX7_weigh 156 = .ok (.invokestatic 56, 3) := by decide +kernel
theorem dX7_weigh_159 : decode cX7_weigh 159 = .ok (.iinc 6 (-1), 3) := by decide +kernel
theorem dX7_weigh_162 : decode cX7_weigh 162 = .ok (.goto (-105), 3) := by decide +kernel
theorem dX7_weigh_165 : decode cX7_weigh 165 = .ok (.aload_n 0, 1) := by decide +kernel
theorem dX7_weigh_166 : decode cX7_weigh 166 = .ok (.aload_n 1, 1) := by decide +kernel
theorem dX7_weigh_167 : decode cX7_weigh 167 = .ok (.aload_n 2, 1) := by decide +kernel
theorem dX7_weigh_168 : decode cX7_weigh 168 = .ok (.iload 4, 2) := by decide +kernel
theorem dX7_weigh_170 : decode cX7_weigh 170 = .ok (.iload 5, 2) := by decide +kernel
theorem dX7_weigh_172 : decode cX7_weigh 172 = .ok (.invokevirtual 37, 3) := by decide +kernel
theorem dX7_weigh_175 : decode cX7_weigh 175 = .ok (.return_, 1) := by decide +kernel
