theorem b_100 : Cond.fieldLink RX3 9 "GentleLetters$Log" "kinds" "[I" ∈ BIG := bi (tin_1 _ (List.mem_of_getElem? (i := 78) rfl)) rfl
theorem b_101 : Cond.methodLink RX3 25 arraycopyName ∈ BIG := bi (tin_3 _ (List.mem_of_getElem? (i := 131) rfl)) rfl
theorem b_102 : Cond.native arraycopyName ∈ BIG := bi (tin_3 _ (List.mem_of_getElem? (i := 126) rfl)) rfl
theorem b_103 : Cond.static arraycopyName ∈ BIG := bi (tin_3 _ (List.mem_of_getElem? (i := 125) rfl)) rfl
theorem b_104 : Cond.initialized RJ10 ∈ BIG := bi (tin_1 _ (List.mem_of_getElem? (i := 20) rfl)) rfl
theorem b_105 : Cond.fieldLink RX3 15 "GentleLetters$Log" "places" "[I" ∈ BIG := bi (tin_1 _ (List.mem_of_getElem? (i := 80) rfl)) rfl
theorem b_106 : Cond.fieldLink RX3 18 "GentleLetters$Log" "olds" "[I" ∈ BIG := bi (tin_1 _ (List.mem_of_getElem? (i := 82) rfl)) rfl
theorem b_107 : Cond.fieldLink RX3 21 "GentleLetters$Log" "size" "I" ∈ BIG := bi (tin_1 _ (List.mem_of_getElem? (i := 84) rfl)) rfl
theorem b_108 : Cond.fieldLink RX0 50 "GentleLetters$Desk" "really" "I" ∈ BIG := bi (tin_1 _ (List.mem_of_getElem? (i := 100) rfl)) rfl
theorem b_109 : Cond.fieldLink RX0 56 "GentleLetters$Desk" "heal" "I" ∈ BIG := bi (tin_1 _ (List.mem_of_getElem? (i := 110) rfl)) rfl
theorem b_110 : Cond.fieldLink RX0 59 "GentleLetters$Desk" "leak" "I" ∈ BIG := bi (tin_1 _ (List.mem_of_getElem? (i := 113) rfl)) rfl
theorem b_111 : Cond.fieldLink RX0 9 "GentleLetters$Desk" "grades" "[I" ∈ BIG := bi (tin_1 _ (List.mem_of_getElem? (i := 137) rfl)) rfl
theorem b_112 : Cond.methodLink RX0 86 arraycopyName ∈ BIG := bi (tin_3 _ (List.mem_of_getElem? (i := 124) rfl)) rfl
theorem b_113 : Cond.fieldLink RX0 15 "GentleLetters$Desk" "thoughts" "[I" ∈ BIG := bi (tin_1 _ (List.mem_of_getElem? (i := 140) rfl)) rfl
theorem b_114 : Cond.fieldLink RX0 18 "GentleLetters$Desk" "reckonings" "[I" ∈ BIG := bi (tin_1 _ (List.mem_of_getElem? (i := 142) rfl)) rfl
theorem b_115 : Cond.fieldLink RX0 21 "GentleLetters$Desk" "told" "[I" ∈ BIG := bi (tin_1 _ (List.mem_of_getElem? (i := 145) rfl)) rfl
theorem b_116 : Cond.fieldLink RX0 24 "GentleLetters$Desk" "shames" "[I" ∈ BIG := bi (tin_1 _ (List.mem_of_getElem? (i := 148) rfl)) rfl
theorem b_117 : Cond.fieldLink RX0 27 "GentleLetters$Desk" "meanings" "[I" ∈ BIG := bi (tin_1 _ (List.mem_of_getElem? (i := 151) rfl)) rfl
theorem b_118 : Cond.fieldLink RX0 30 "GentleLetters$Desk" "planSizes" "[I" ∈ BIG := bi (tin_1 _ (List.mem_of_getElem? (i := 155) rfl)) rfl
theorem b_119 : Cond.fieldLink RX0 33 "GentleLetters$Desk" "planWords" "[I" ∈ BIG := bi (tin_1 _ (List.mem_of_getElem? (i := 157) rfl)) rfl
theorem b_120 : Cond.fieldLink RX0 36 "GentleLetters$Desk" "tidings" "[I" ∈ BIG := bi (tin_1 _ (List.mem_of_getElem? (i := 159) rfl)) rfl
theorem b_121 : Cond.fieldLink RX0 42 "GentleLetters$Desk" "log" "LGentleLetters$Log;" ∈ BIG := bi (tin_1 _ (List.mem_of_getElem? (i := 163) rfl)) rfl
theorem b_122 : Cond.methodLinkNest RX0 92 yX3_takeAll RX11 ∈ nests := ne (tin_3 _ (List.mem_of_getElem? (i := 127) rfl)) rfl
theorem b_123 : Cond.fieldLinkNest RX0 77 "GentleLetters$Log" "size" "I" RX11 ∈ nests := ne (tin_1 _ (List.mem_of_getElem? (i := 85) rfl)) rfl
theorem b_124 : Cond.methodLink RX0 80 yJ7_fill_53178 ∈ BIG := bi (tin_2 _ (List.mem_of_getElem? (i := 215) rfl)) rfl
theorem b_125 : Cond.fieldLink RX9 19 "GentleLetters$Tape" "stop" "I" ∈ BIG := bi (tin_1 _ (List.mem_of_getElem? (i := 49) rfl)) rfl
theorem b_126 : Cond.fieldLink RX9 25 "GentleLetters$Tape" "start" "I" ∈ BIG := bi (tin_1 _ (List.mem_of_getElem? (i := 48) rfl)) rfl
theorem b_127 : Cond.fieldLink RX9 15 "GentleLetters$Tape" "size" "I" ∈ BIG := bi (tin_1 _ (List.mem_of_getElem? (i := 43) rfl)) rfl
theorem b_128 : Cond.fieldLink RX9 32 "GentleLetters$Tape" "kind" "I" ∈ BIG := bi (tin_1 _ (List.mem_of_getElem? (i := 46) rfl)) rfl
theorem b_129 : Cond.fieldLink RX9 35 "GentleLetters$Tape" "number" "I" ∈ BIG := bi (tin_1 _ (List.mem_of_getElem? (i := 50) rfl)) rfl
theorem b_130 : Cond.methodLink RX9 22 yX9_advance ∈ BIG := bi (tin_2 _ (List.mem_of_getElem? (i := 222) rfl)) rfl
theorem b_131 : Cond.fieldLink RX9 9 "GentleLetters$Tape" "bytes" "[B" ∈ BIG := bi (tin_1 _ (List.mem_of_getElem? (i := 42) rfl)) rfl
theorem b_132 : Cond.fieldLink RX1 29 "GentleLetters$DeskReader" "fault" "I" ∈ BIG := bi (tin_1 _ (List.mem_of_getElem? (i := 210) rfl)) rfl
theorem b_133 : Cond.fieldLink RX1 25 "GentleLetters$DeskReader" "place" "I" ∈ BIG := bi (tin_1 _ (List.mem_of_getElem? (i := 212) rfl)) rfl
theorem b_134 : Cond.fieldLink RX1 21 "GentleLetters$DeskReader" "draft" "LGentleLetters$Desk;" ∈ BIG := bi (tin_1 _ (List.mem_of_getElem? (i := 208) rfl)) rfl
theorem b_135 : Cond.methodLinkNest RX1 32 yX0_clear RX11 ∈ nests := ne (tin_2 _ (List.mem_of_getElem? (i := 211) rfl)) rfl
theorem b_136 : Cond.fieldLink RX1 12 "GentleLetters$DeskReader" "tape" "LGentleLetters$Tape;" ∈ BIG := bi (tin_1 _ (List.mem_of_getElem? (i := 206) rfl)) rfl
theorem b_137 : Cond.methodLinkNest RX1 35 yX9_rewind RX11 ∈ nests := ne (tin_2 _ (List.mem_of_getElem? (i := 218) rfl)) rfl
theorem b_138 : Cond.fieldLinkNest RX1 38 "GentleLetters$Tape" "kind" "I" RX11 ∈ nests := ne (tin_1 _ (List.mem_of_getElem? (i := 45) rfl)) rfl
theorem b_139 : Cond.fieldLink RX11 33 "GentleLetters" "rows" "[LGentleLetters$Row;" ∈ BIG := bi (tin_2 _ (List.mem_of_getElem? (i := 161) rfl)) rfl
theorem b_140 : Cond.fieldLinkNest RX11 430 "GentleLetters$Row" "there" "Z" RX11 ∈ nests := ne (tin_2 _ (List.mem_of_getElem? (i := 141) rfl)) rfl
theorem b_141 : Cond.methodLink RX11 404 yX11_rowOf ∈ BIG := bi (tin_4 _ (List.mem_of_getElem? (i := 31) rfl)) rfl
theorem b_142 : Cond.fieldLink RX8 15 "GentleLetters$Row" "there" "Z" ∈ BIG := bi (tin_2 _ (List.mem_of_getElem? (i := 140) rfl)) rfl
theorem b_143 : Cond.fieldLink RX8 19 "GentleLetters$Row" "width" "I" ∈ BIG := bi (tin_2 _ (List.mem_of_getElem? (i := 142) rfl)) rfl
theorem b_144 : Cond.fieldLink RX8 23 "GentleLetters$Row" "size" "I" ∈ BIG := bi (tin_2 _ (List.mem_of_getElem? (i := 145) rfl)) rfl
theorem b_145 : Cond.fieldLink RX8 9 "GentleLetters$Row" "numbers" "[J" ∈ BIG := bi (tin_2 _ (List.mem_of_getElem? (i := 137) rfl)) rfl
theorem b_146 : Cond.methodLink RX8 26 yJ7_fill_d0a16 ∈ BIG := bi (tin_6 _ (List.mem_of_getElem? (i := 76) rfl)) rfl
theorem b_147 : Cond.methodLinkNest RX11 401 yX8_begin RX11 ∈ nests := ne (tin_6 _ (List.mem_of_getElem? (i := 72) rfl)) rfl
theorem b_148 : Cond.fieldLink RX11 23 "GentleLetters" "images" "[LGentleLetters$Desk;" ∈ BIG := bi (tin_2 _ (List.mem_of_getElem? (i := 159) rfl)) rfl
theorem b_149 : Cond.methodLinkNest RX11 101 yX0_copyFrom RX11 ∈ nests := ne (tin_3 _ (List.mem_of_getElem? (i := 120) rfl)) rfl
theorem b_150 : Cond.fieldLink RX11 27 "GentleLetters" "imaged" "[Z" ∈ BIG := bi (tin_2 _ (List.mem_of_getElem? (i := 160) rfl)) rfl
theorem b_151 : Cond.fieldLink RX11 10 "GentleLetters" "reader" "LGentleLetters$DeskReader;" ∈ BIG := bi (tin_2 _ (List.mem_of_getElem? (i := 157) rfl)) rfl
theorem b_152 : Cond.fieldLinkNest RX11 111 "GentleLetters$DeskReader" "place" "I" RX11 ∈ nests := ne (tin_1 _ (List.mem_of_getElem? (i := 213) rfl)) rfl
theorem b_153 : Cond.fieldLinkNest RX11 108 "GentleLetters$DeskReader" "fault" "I" RX11 ∈ nests := ne (tin_1 _ (List.mem_of_getElem? (i := 211) rfl)) rfl
theorem b_154 : Cond.fieldLinkNest RX11 80 "GentleLetters$DeskReader" "tape" "LGentleLetters$Tape;" RX11 ∈ nests := ne (tin_1 _ (List.mem_of_getElem? (i := 207) rfl)) rfl
theorem b_155 : Cond.fieldLinkNest RX11 84 "GentleLetters$Tape" "size" "I" RX11 ∈ nests := ne (tin_1 _ (List.mem_of_getElem? (i := 44) rfl)) rfl
theorem b_156 : Cond.methodLinkNest RX11 90 yX9_put RX11 ∈ nests := ne (tin_2 _ (List.mem_of_getElem? (i := 195) rfl)) rfl
theorem b_157 : Cond.methodLinkNest RX11 94 yX1_readDesk RX11 ∈ nests := ne (tin_2 _ (List.mem_of_getElem? (i := 207) rfl)) rfl
theorem b_158 : Cond.fieldLinkNest RX11 98 "GentleLetters$DeskReader" "draft" "LGentleLetters$Desk;" RX11 ∈ nests := ne (tin_1 _ (List.mem_of_getElem? (i := 209) rfl)) rfl
theorem b_159 : Cond.fieldLinkNest RX11 105 "GentleLetters$Desk" "lines" "I" RX11 ∈ nests := ne (tin_1 _ (List.mem_of_getElem? (i := 118) rfl)) rfl
theorem b_160 : Cond.fieldLinkNest RX11 264 "GentleLetters$Desk" "states" "I" RX11 ∈ nests := ne (tin_1 _ (List.mem_of_getElem? (i := 99) rfl)) rfl
theorem b_161 : Cond.fieldLinkNest RX11 380 "GentleLetters$Desk" "really" "I" RX11 ∈ nests := ne (tin_1 _ (List.mem_of_getElem? (i := 102) rfl)) rfl
theorem b_162 : Cond.fieldLinkNest RX11 230 "GentleLetters$Desk" "days" "I" RX11 ∈ nests := ne (tin_1 _ (List.mem_of_getElem? (i := 109) rfl)) rfl
theorem b_163 : Cond.fieldLinkNest RX11 383 "GentleLetters$Desk" "heal" "I" RX11 ∈ nests := ne (tin_1 _ (List.mem_of_getElem? (i := 112) rfl)) rfl
theorem b_164 : Cond.fieldLinkNest RX11 386 "GentleLetters$Desk" "leak" "I" RX11 ∈ nests := ne (tin_1 _ (List.mem_of_getElem? (i := 115) rfl)) rfl
theorem b_165 : Cond.fieldLinkNest RX11 270 "GentleLetters$Desk" "hearers" "I" RX11 ∈ nests := ne (tin_1 _ (List.mem_of_getElem? (i := 121) rfl)) rfl
theorem b_166 : Cond.fieldLinkNest RX11 180 "GentleLetters$Desk" "words" "I" RX11 ∈ nests := ne (tin_1 _ (List.mem_of_getElem? (i := 128) rfl)) rfl
theorem b_167 : Cond.fieldLinkNest RX11 389 "GentleLetters$Desk" "plans" "I" RX11 ∈ nests := ne (tin_1 _ (List.mem_of_getElem? (i := 132) rfl)) rfl
theorem b_168 : Cond.fieldLinkNest RX11 392 "GentleLetters$Desk" "news" "I" RX11 ∈ nests := ne (tin_1 _ (List.mem_of_getElem? (i := 136) rfl)) rfl
theorem b_169 : Cond.fieldLinkNest RX11 355 "GentleLetters$Desk" "log" "LGentleLetters$Log;" RX11 ∈ nests := ne (tin_1 _ (List.mem_of_getElem? (i := 164) rfl)) rfl
theorem b_170 : Cond.fieldLinkNest RX11 359 "GentleLetters$Log" "size" "I" RX11 ∈ nests := ne (tin_1 _ (List.mem_of_getElem? (i := 86) rfl)) rfl
theorem b_171 : Cond.methodLink RX11 395 yX11_countRows ∈ BIG := bi (tin_6 _ (List.mem_of_getElem? (i := 56) rfl)) rfl
theorem b_172 : Cond.code yX11_countRows cX11_countRows 3 (some .int) ∈ BIG := bi (tin_6 _ (List.mem_of_getElem? (i := 59) rfl)) rfl
theorem b_173 : Cond.instanceMethod yX11_countRows ∈ BIG := bi (tin_6 _ (List.mem_of_getElem? (i := 58) rfl)) rfl
theorem b_174 : Cond.selects RX11 yX11_countRows yX11_countRows ∈ BIG := bi (sin_7 _ (List.mem_map.mpr ⟨(yX11_countRows, 11), List.mem_of_getElem? (i := 1) rfl, rfl⟩)) rfl
theorem b_175 : Cond.code yX11_rowOf cX11_rowOf 3 (some (.object "GentleLetters$Row")) ∈ BIG := bi (tin_4 _ (List.mem_of_getElem? (i := 34) rfl)) rfl
theorem b_176 : Cond.instanceMethod yX11_rowOf ∈ BIG := bi (tin_4 _ (List.mem_of_getElem? (i := 33) rfl)) rfl
theorem b_177 : Cond.selects RX11 yX11_rowOf yX11_rowOf ∈ BIG := bi (sin_3 _ (List.mem_map.mpr ⟨(yX11_rowOf, 11), List.mem_of_getElem? (i := 7) rfl, rfl⟩)) rfl
theorem b_178 : Cond.code yX0_clear cX0_clear 1 none ∈ BIG := bi (tin_2 _ (List.mem_of_getElem? (i := 214) rfl)) rfl
theorem b_179 : Cond.instanceMethod yX0_clear ∈ BIG := bi (tin_2 _ (List.mem_of_getElem? (i := 213) rfl)) rfl
theorem b_180 : Cond.selects RX0 yX0_clear yX0_clear ∈ BIG := bi (sin_1 _ (List.mem_map.mpr ⟨(yX0_clear, 20), List.mem_of_getElem? (i := 2) rfl, rfl⟩)) rfl
theorem b_181 : Cond.code yX0_copyFrom cX0_copyFrom 2 none ∈ BIG := bi (tin_3 _ (List.mem_of_getElem? (i := 123) rfl)) rfl
theorem b_182 : Cond.instanceMethod yX0_copyFrom ∈ BIG := bi (tin_3 _ (List.mem_of_getElem? (i := 122) rfl)) rfl
theorem b_183 : Cond.selects RX0 yX0_copyFrom yX0_copyFrom ∈ BIG := bi (sin_2 _ (List.mem_map.mpr ⟨(yX0_copyFrom, 20), List.mem_of_getElem? (i := 4) rfl, rfl⟩)) rfl
theorem b_184 : Cond.code yX1_readDesk cX1_readDesk 2 (some .boolean) ∈ BIG := bi (tin_2 _ (List.mem_of_getElem? (i := 210) rfl)) rfl
theorem b_185 : Cond.instanceMethod yX1_readDesk ∈ BIG := bi (tin_2 _ (List.mem_of_getElem? (i := 209) rfl)) rfl
theorem b_186 : Cond.selects RX1 yX1_readDesk yX1_readDesk ∈ BIG := bi (sin_1 _ (List.mem_map.mpr ⟨(yX1_readDesk, 5), List.mem_of_getElem? (i := 1) rfl, rfl⟩)) rfl
theorem b_187 : Cond.initialized RX1 ∈ BIG := bi (tin_1 _ (List.mem_of_getElem? (i := 2) rfl)) rfl
theorem b_188 : Cond.code yX3_takeAll cX3_takeAll 2 none ∈ BIG := bi (tin_3 _ (List.mem_of_getElem? (i := 130) rfl)) rfl
theorem b_189 : Cond.instanceMethod yX3_takeAll ∈ BIG := bi (tin_3 _ (List.mem_of_getElem? (i := 129) rfl)) rfl
theorem b_190 : Cond.selects RX3 yX3_takeAll yX3_takeAll ∈ BIG := bi (sin_2 _ (List.mem_map.mpr ⟨(yX3_takeAll, 4), List.mem_of_getElem? (i := 5) rfl, rfl⟩)) rfl
theorem b_191 : Cond.initialized RX3 ∈ BIG := bi (tin_1 _ (List.mem_of_getElem? (i := 5) rfl)) rfl
theorem b_192 : Cond.code yX8_begin cX8_begin 3 none ∈ BIG := bi (tin_6 _ (List.mem_of_getElem? (i := 75) rfl)) rfl
theorem b_193 : Cond.instanceMethod yX8_begin ∈ BIG := bi (tin_6 _ (List.mem_of_getElem? (i := 74) rfl)) rfl
theorem b_194 : Cond.selects RX8 yX8_begin yX8_begin ∈ BIG := bi (sin_7 _ (List.mem_map.mpr ⟨(yX8_begin, 4), List.mem_of_getElem? (i := 2) rfl, rfl⟩)) rfl
theorem b_195 : Cond.initialized RX8 ∈ BIG := bi (tin_1 _ (List.mem_of_getElem? (i := 12) rfl)) rfl
theorem b_196 : Cond.code yX9_advance cX9_advance 1 none ∈ BIG := bi (tin_2 _ (List.mem_of_getElem? (i := 225) rfl)) rfl
theorem b_197 : Cond.instanceMethod yX9_advance ∈ BIG := bi (tin_2 _ (List.mem_of_getElem? (i := 224) rfl)) rfl
theorem b_198 : Cond.selects RX9 yX9_advance yX9_advance ∈ BIG := bi (sin_1 _ (List.mem_map.mpr ⟨(yX9_advance, 6), List.mem_of_getElem? (i := 4) rfl, rfl⟩)) rfl
theorem b_199 : Cond.initialized RX9 ∈ BIG := bi (tin_1 _ (List.mem_of_getElem? (i := 3) rfl)) rfl
theorem b_200 : Cond.code yX9_put cX9_put 3 none ∈ BIG := bi (tin_2 _ (List.mem_of_getElem? (i := 198) rfl)) rfl
theorem b_201 : Cond.instanceMethod yX9_put ∈ BIG := bi (tin_2 _ (List.mem_of_getElem? (i := 197) rfl)) rfl
theorem b_202 : Cond.selects RX9 yX9_put yX9_put ∈ BIG := bi (sin_1 _ (List.mem_map.mpr ⟨(yX9_put, 6), List.mem_of_getElem? (i := 0) rfl, rfl⟩)) rfl
theorem b_203 : Cond.code yX9_rewind cX9_rewind 1 none ∈ BIG := bi (tin_2 _ (List.mem_of_getElem? (i := 221) rfl)) rfl
theorem b_204 : Cond.instanceMethod yX9_rewind ∈ BIG := bi (tin_2 _ (List.mem_of_getElem? (i := 220) rfl)) rfl
theorem b_205 : Cond.selects RX9 yX9_rewind yX9_rewind ∈ BIG := bi (sin_1 _ (List.mem_map.mpr ⟨(yX9_rewind, 6), List.mem_of_getElem? (i := 3) rfl, rfl⟩)) rfl
theorem b_206 : Cond.code yJ7_fill_53178 cJ7_fill_53178 4 none ∈ BIG := bi (tin_2 _ (List.mem_of_getElem? (i := 217) rfl)) rfl
theorem b_207 : Cond.static yJ7_fill_53178 ∈ BIG := bi (tin_2 _ (List.mem_of_getElem? (i := 216) rfl)) rfl
theorem b_208 : Cond.initialized RJ7 ∈ BIG := bi (tin_1 _ (List.mem_of_getElem? (i := 14) rfl)) rfl
theorem b_209 : Cond.code yJ7_fill_d0a16 cJ7_fill_d0a16 5 none ∈ BIG := bi (tin_6 _ (List.mem_of_getElem? (i := 78) rfl)) rfl
theorem b_210 : Cond.static yJ7_fill_d0a16 ∈ BIG := bi (tin_6 _ (List.mem_of_getElem? (i := 77) rfl)) rfl
theorem b_211 : Cond.laysFinal RX1 RX1 "tape" "LGentleLetters$Tape;" ∈ BIG := bi (tin_1 _ (List.mem_of_getElem? (i := 215) rfl)) rfl
theorem b_212 : Cond.laysFinal RX1 RX1 "draft" "LGentleLetters$Desk;" ∈ BIG := bi (tin_1 _ (List.mem_of_getElem? (i := 217) rfl)) rfl
theorem b_213 : Cond.lays RX1 RX1 "fault" "I" ∈ BIG := bi (tin_1 _ (List.mem_of_getElem? (i := 219) rfl)) rfl
theorem b_214 : Cond.lays RX1 RX1 "place" "I" ∈ BIG := bi (tin_1 _ (List.mem_of_getElem? (i := 221) rfl)) rfl
theorem b_215 : Cond.lays RX1 RX1 "value" "I" ∈ BIG := bi (tin_1 _ (List.mem_of_getElem? (i := 223) rfl)) rfl
theorem b_216 : Cond.laysFinal RX3 RX3 "kinds" "[I" ∈ BIG := bi (tin_1 _ (List.mem_of_getElem? (i := 87) rfl)) rfl
theorem b_217 : Cond.laysFinal RX3 RX3 "places" "[I" ∈ BIG := bi (tin_1 _ (List.mem_of_getElem? (i := 89) rfl)) rfl
theorem b_218 : Cond.laysFinal RX3 RX3 "olds" "[I" ∈ BIG := bi (tin_1 _ (List.mem_of_getElem? (i := 91) rfl)) rfl
theorem b_219 : Cond.lays RX3 RX3 "size" "I" ∈ BIG := bi (tin_1 _ (List.mem_of_getElem? (i := 93) rfl)) rfl
theorem b_220 : Cond.laysFinal RX8 RX8 "numbers" "[J" ∈ BIG := bi (tin_2 _ (List.mem_of_getElem? (i := 147) rfl)) rfl
theorem b_221 : Cond.lays RX8 RX8 "there" "Z" ∈ BIG := bi (tin_2 _ (List.mem_of_getElem? (i := 149) rfl)) rfl
theorem b_222 : Cond.lays RX8 RX8 "width" "I" ∈ BIG := bi (tin_2 _ (List.mem_of_getElem? (i := 151) rfl)) rfl
theorem b_223 : Cond.lays RX8 RX8 "size" "I" ∈ BIG := bi (tin_2 _ (List.mem_of_getElem? (i := 153) rfl)) rfl
theorem b_224 : Cond.laysFinal RX9 RX9 "bytes" "[B" ∈ BIG := bi (tin_1 _ (List.mem_of_getElem? (i := 52) rfl)) rfl
theorem b_225 : Cond.lays RX9 RX9 "size" "I" ∈ BIG := bi (tin_1 _ (List.mem_of_getElem? (i := 54) rfl)) rfl
theorem b_226 : Cond.lays RX9 RX9 "kind" "I" ∈ BIG := bi (tin_1 _ (List.mem_of_getElem? (i := 56) rfl)) rfl
theorem b_227 : Cond.lays RX9 RX9 "start" "I" ∈ BIG := bi (tin_1 _ (List.mem_of_getElem? (i := 58) rfl)) rfl
theorem b_228 : Cond.lays RX9 RX9 "stop" "I" ∈ BIG := bi (tin_1 _ (List.mem_of_getElem? (i := 60) rfl)) rfl
theorem b_229 : Cond.lays RX9 RX9 "number" "I" ∈ BIG := bi (tin_1 _ (List.mem_of_getElem? (i := 62) rfl)) rfl
theorem m_yX11_countRows : MV yX11_countRows cX11_countRows 3 (some .int) 0 := ⟨b_172, b_173, b_174, b_27, by decide +kernel⟩
theorem m_yX11_rowOf : MV yX11_rowOf cX11_rowOf 3 (some (.object "GentleLetters$Row")) 1 := ⟨b_175, b_176, b_177, b_27, by decide +kernel⟩
theorem m_yX0_clear : MV yX0_clear cX0_clear 1 none 0 := ⟨b_178, b_179, b_180, b_47, by decide +kernel⟩
theorem m_yX0_copyFrom : MV yX0_copyFrom cX0_copyFrom 2 none 1 := ⟨b_181, b_182, b_183, b_47, by decide +kernel⟩
theorem m_yX1_readDesk : MV yX1_readDesk cX1_readDesk 2 (some .boolean) 0 := ⟨b_184, b_185, b_186, b_187, by decide +kernel⟩
theorem m_yX3_takeAll : MV yX3_takeAll cX3_takeAll 2 none 1 := ⟨b_188, b_189, b_190, b_191, by decide +kernel⟩
theorem m_yX8_begin : MV yX8_begin cX8_begin 3 none 2 := ⟨b_192, b_193, b_194, b_195, by decide +kernel⟩
theorem m_yX9_advance : MV yX9_advance cX9_advance 1 none 0 := ⟨b_196, b_197, b_198, b_199, by decide +kernel⟩
theorem m_yX9_put : MV yX9_put cX9_put 3 none 1 := ⟨b_200, b_201, b_202, b_199, by decide +kernel⟩
theorem m_yX9_rewind : MV yX9_rewind cX9_rewind 1 none 0 := ⟨b_203, b_204, b_205, b_199, by decide +kernel⟩
theorem m_yJ7_fill_53178 : MS yJ7_fill_53178 cJ7_fill_53178 4 none 2 := ⟨b_206, b_207, b_208, by decide +kernel⟩
theorem m_yJ7_fill_d0a16 : MS yJ7_fill_d0a16 cJ7_fill_d0a16 5 none 2 := ⟨b_209, b_210, b_208, by decide +kernel⟩
theorem i_X1 : ∀ w ∈ u_ws RX1 TX1 5, w ∈ BIG := fun w hw => by
  obtain ⟨k, hk, rfl⟩ := List.mem_map.mp hw
  have hk := List.mem_range.mp hk
  match k, hk with
  | 0, _ => exact b_211
  | 1, _ => exact b_212
  | 2, _ => exact b_213
  | 3, _ => exact b_214
  | 4, _ => exact b_215
  | k + 5, hk => exact absurd hk (by omega)
theorem i_X3 : ∀ w ∈ u_ws RX3 TX3 4, w ∈ BIG := fun w hw => by
  obtain ⟨k, hk, rfl⟩ := List.mem_map.mp hw
  have hk := List.mem_range.mp hk
  match k, hk with
  | 0, _ => exact b_216
  | 1, _ => exact b_217
  | 2, _ => exact b_218
  | 3, _ => exact b_219
  | k + 4, hk => exact absurd hk (by omega)
theorem i_X8 : ∀ w ∈ u_ws RX8 TX8 4, w ∈ BIG := fun w hw => by
  obtain ⟨k, hk, rfl⟩ := List.mem_map.mp hw
  have hk := List.mem_range.mp hk
  match k, hk with
  | 0, _ => exact b_220
  | 1, _ => exact b_221
  | 2, _ => exact b_222
  | 3, _ => exact b_223
  | k + 4, hk => exact absurd hk (by omega)
theorem i_X9 : ∀ w ∈ u_ws RX9 TX9 6, w ∈ BIG := fun w hw => by
  obtain ⟨k, hk, rfl⟩ := List.mem_map.mp hw
  have hk := List.mem_range.mp hk
  match k, hk with
  | 0, _ => exact b_224
  | 1, _ => exact b_225
  | 2, _ => exact b_226
  | 3, _ => exact b_227
  | 4, _ => exact b_228
  | 5, _ => exact b_229
  | k + 6, hk => exact absurd hk (by omega)
theorem dJ7_fill_53178_0 : decode cJ7_fill_53178 0 = .ok (.iconst 0, 1) := by decide +kernel
theorem dJ7_fill_53178_1 : decode cJ7_fill_53178 1 = .ok (.istore_n 2, 1) := by decide +kernel
theorem dJ7_fill_53178_2 : decode cJ7_fill_53178 2 = .ok (.aload_n 0, 1) := by decide +kernel
theorem dJ7_fill_53178_3 : decode cJ7_fill_53178 3 = .ok (.arraylength, 1) := by decide +kernel
theorem dJ7_fill_53178_4 : decode cJ7_fill_53178 4 = .ok (.istore_n 3, 1) := by decide +kernel
theorem dJ7_fill_53178_5 : decode cJ7_fill_53178 5 = .ok (.iload_n 2, 1) := by decide +kernel
theorem dJ7_fill_53178_6 : decode cJ7_fill_53178 6 = .ok (.iload_n 3, 1) := by decide +kernel
theorem dJ7_fill_53178_7 : decode cJ7_fill_53178 7 = .ok (.if_icmp .ge 13, 3) := by decide +kernel
theorem dJ7_fill_53178_10 : decode cJ7_fill_53178 10 = .ok (.aload_n 0, 1) := by decide +kernel
theorem dJ7_fill_53178_11 : decode cJ7_fill_53178 11 = .ok (.iload_n 2, 1) := by decide +kernel
theorem dJ7_fill_53178_12 : decode cJ7_fill_53178 12 = .ok (.iload_n 1, 1) := by decide +kernel
theorem dJ7_fill_53178_13 : decode cJ7_fill_53178 13 = .ok (.iastore, 1) := by decide +kernel
theorem dJ7_fill_53178_14 : decode cJ7_fill_53178 14 = .ok (.iinc 2 1, 3) := by decide +kernel
theorem dJ7_fill_53178_17 : decode cJ7_fill_53178 17 = .ok (.goto (-12), 3) := by decide +kernel
theorem dJ7_fill_53178_20 : decode cJ7_fill_53178 20 = .ok (.return_, 1) := by decide +kernel
theorem dJ7_fill_d0a16_0 : decode cJ7_fill_d0a16 0 = .ok (.iconst 0, 1) := by decide +kernel
theorem dJ7_fill_d0a16_1 : decode cJ7_fill_d0a16 1 = .ok (.istore_n 3, 1) := by decide +kernel
theorem dJ7_fill_d0a16_2 : decode cJ7_fill_d0a16 2 = .ok (.aload_n 0, 1) := by decide +kernel
theorem dJ7_fill_d0a16_3 : decode cJ7_fill_d0a16 3 = .ok (.arraylength, 1) := by decide +kernel
theorem dJ7_fill_d0a16_4 : decode cJ7_fill_d0a16 4 = .ok (.istore 4, 2) := by decide +kernel
theorem dJ7_fill_d0a16_6 : decode cJ7_fill_d0a16 6 = .ok (.iload_n 3, 1) := by decide +kernel
theorem dJ7_fill_d0a16_7 : decode cJ7_fill_d0a16 7 = .ok (.iload 4, 2) := by decide +kernel
theorem dJ7_fill_d0a16_9 : decode cJ7_fill_d0a16 9 = .ok (.if_icmp .ge 13, 3) := by decide +kernel
theorem dJ7_fill_d0a16_12 : decode cJ7_fill_d0a16 12 = .ok (.aload_n 0, 1) := by decide +kernel
theorem dJ7_fill_d0a16_13 : decode cJ7_fill_d0a16 13 = .ok (.iload_n 3, 1) := by decide +kernel
theorem dJ7_fill_d0a16_14 : decode cJ7_fill_d0a16 14 = .ok (.lload_n 1, 1) := by decide +kernel
theorem dJ7_fill_d0a16_15 : decode cJ7_fill_d0a16 15 = .ok (.lastore, 1) := by decide +kernel
theorem dJ7_fill_d0a16_16 : decode cJ7_fill_d0a16 16 = .ok (.iinc 3 1, 3) := by decide +kernel
theorem dJ7_fill_d0a16_19 : decode cJ7_fill_d0a16 19 = .ok (.goto (-13), 3) := by decide +kernel
theorem dJ7_fill_d0a16_22 : decode cJ7_fill_d0a16 22 = .ok (.return_, 1) := by decide +kernel
theorem dX0_clear_0 : decode cX0_clear 0 = .ok (.aload_n 0, 1) := by decide +kernel
theorem dX0_clear_1 : decode cX0_clear 1 = .ok (.iconst 0, 1) := by decide +kernel
theorem dX0_clear_2 : decode cX0_clear 2 = .ok (.putfield 46, 3) := by decide +kernel
theorem dX0_clear_5 : decode cX0_clear 5 = .ok (.aload_n 0, 1) := by decide +kernel
theorem dX0_clear_6 : decode cX0_clear 6 = .ok (.iconst 0, 1) := by decide +kernel
theorem dX0_clear_7 : decode cX0_clear 7 = .ok (.putfield 50, 3) := by decide +kernel
theorem dX0_clear_10 : decode cX0_clear 10 = .ok (.aload_n 0, 1) := by decide +kernel
theorem dX0_clear_11 : decode cX0_clear 11 = .ok (.iconst 0, 1) := by decide +kernel
theorem dX0_clear_12 : decode cX0_clear 12 = .ok (.putfield 53, 3) := by decide +kernel
theorem dX0_clear_15 : decode cX0_clear 15 = .ok (.aload_n 0, 1) := by decide +kernel
theorem dX0_clear_16 : decode cX0_clear 16 = .ok (.iconst 0, 1) := by decide +kernel
theorem dX0_clear_17 : decode cX0_clear 17 = .ok (.putfield 56, 3) := by decide +kernel
theorem dX0_clear_20 : decode cX0_clear 20 = .ok (.aload_n 0, 1) := by decide +kernel
theorem dX0_clear_21 : decode cX0_clear 21 = .ok (.iconst 0, 1) := by decide +kernel
theorem dX0_clear_22 : decode cX0_clear 22 = .ok (.putfield 59, 3) := by decide +kernel
theorem dX0_clear_25 : decode cX0_clear 25 = .ok (.aload_n 0, 1) := by decide +kernel
theorem dX0_clear_26 : decode cX0_clear 26 = .ok (.iconst 0, 1) := by decide +kernel
theorem dX0_clear_27 : decode cX0_clear 27 = .ok (.putfield 62, 3) := by decide +kernel
theorem dX0_clear_30 : decode cX0_clear 30 = .ok (.aload_n 0, 1) := by decide +kernel
theorem dX0_clear_31 : decode cX0_clear 31 = .ok (.iconst 0, 1) := by decide +kernel
theorem dX0_clear_32 : decode cX0_clear 32 = .ok (.putfield 65, 3) := by decide +kernel
theorem dX0_clear_35 : decode cX0_clear 35 = .ok (.aload_n 0, 1) := by decide +kernel
theorem dX0_clear_36 : decode cX0_clear 36 = .ok (.iconst 0, 1) := by decide +kernel
theorem dX0_clear_37 : decode cX0_clear 37 = .ok (.putfield 68, 3) := by decide +kernel
theorem dX0_clear_40 : decode cX0_clear 40 = .ok (.aload_n 0, 1) := by decide +kernel
theorem dX0_clear_41 : decode cX0_clear 41 = .ok (.iconst 0, 1) := by decide +kernel
theorem dX0_clear_42 : decode cX0_clear 42 = .ok (.putfield 71, 3) := by decide +kernel
theorem dX0_clear_45 : decode cX0_clear 45 = .ok (.aload_n 0, 1) := by decide +kernel
theorem dX0_clear_46 : decode cX0_clear 46 = .ok (.iconst 0, 1) := by decide +kernel
theorem dX0_clear_47 : decode cX0_clear 47 = .ok (.putfield 74, 3) := by decide +kernel
theorem dX0_clear_50 : decode cX0_clear 50 = .ok (.aload_n 0, 1) := by decide +kernel
theorem dX0_clear_51 : decode cX0_clear 51 = .ok (.getfield 42, 3) := by decide +kernel
theorem dX0_clear_54 : decode cX0_clear 54 = .ok (.iconst 0, 1) := by decide +kernel
theorem dX0_clear_55 : decode cX0_clear 55 = .ok (.putfield 77, 3) := by decide +kernel
theorem dX0_clear_58 : decode cX0_clear 58 = .ok (.aload_n 0, 1) := by decide +kernel
theorem dX0_clear_59 : decode cX0_clear 59 = .ok (.getfield 9, 3) := by decide +kernel
theorem dX0_clear_62 : decode cX0_clear 62 = .ok (.iconst 0, 1) := by decide +kernel
theorem dX0_clear_63 : decode cX0_clear 63 = .ok (.invokestatic 80, 3) := by decide +kernel
theorem dX0_clear_66 : decode cX0_clear 66 = .ok (.aload_n 0, 1) := by decide +kernel
theorem dX0_clear_67 : decode cX0_clear 67 = .ok (.getfield 18, 3) := by decide +kernel
theorem dX0_clear_70 : decode cX0_clear 70 = .ok (.iconst 0, 1) := by decide +kernel
theorem dX0_clear_71 : decode cX0_clear 71 = .ok (.invokestatic 80, 3) := by decide +kernel
theorem dX0_clear_74 : decode cX0_clear 74 = .ok (.aload_n 0, 1) := by decide +kernel
theorem dX0_clear_75 : decode cX0_clear 75 = .ok (.getfield 21, 3) := by decide +kernel
theorem dX0_clear_78 : decode cX0_clear 78 = .ok (.iconst 0, 1) := by decide +kernel
theorem dX0_clear_79 : decode cX0_clear 79 = .ok (.invokestatic 80, 3) := by decide +kernel
theorem dX0_clear_82 : decode cX0_clear 82 = .ok (.return_, 1) := by decide +kernel
theorem dX0_copyFrom_0 : decode cX0_copyFrom 0 = .ok (.aload_n 0, 1) := by decide +kernel
theorem dX0_copyFrom_1 : decode cX0_copyFrom 1 = .ok (.aload_n 1, 1) := by decide +kernel
theorem dX0_copyFrom_2 : decode cX0_copyFrom 2 = .ok (.getfield 46, 3) := by decide +kernel
theorem dX0_copyFrom_5 : decode cX0_copyFrom 5 = .ok (.putfield 46, 3) := by decide +kernel
theorem dX0_copyFrom_8 : decode cX0_copyFrom 8 = .ok (.aload_n 0, 1) := by decide +kernel
theorem dX0_copyFrom_9 : decode cX0_copyFrom 9 = .ok (.aload_n 1, 1) := by decide +kernel
theorem dX0_copyFrom_10 : decode cX0_copyFrom 10 = .ok (.getfield 50, 3) := by decide +kernel
theorem dX0_copyFrom_13 : decode cX0_copyFrom 13 = .ok (.putfield 50, 3) := by decide +kernel
theorem dX0_copyFrom_16 : decode cX0_copyFrom 16 = .ok (.aload_n 0, 1) := by decide +kernel
theorem dX0_copyFrom_17 : decode cX0_copyFrom 17 = .ok (.aload_n 1, 1) := by decide +kernel
theorem dX0_copyFrom_18 : decode cX0_copyFrom 18 = .ok (.getfield 53, 3) := by decide +kernel
theorem dX0_copyFrom_21 : decode cX0_copyFrom 21 = .ok (.putfield 53, 3) := by decide +kernel
theorem dX0_copyFrom_24 : decode cX0_copyFrom 24 = .ok (.aload_n 0, 1) := by decide +kernel
theorem dX0_copyFrom_25 : decode cX0_copyFrom 25 = .ok (.aload_n 1, 1) := by decide +kernel
theorem dX0_copyFrom_26 : decode cX0_copyFrom 26 = .ok (.getfield 56, 3) := by decide +kernel
theorem dX0_copyFrom_29 : decode cX0_copyFrom 29 = .ok (.putfield 56, 3) := by decide +kernel
theorem dX0_copyFrom_32 : decode cX0_copyFrom 32 = .ok (.aload_n 0, 1) := by decide +kernel
theorem dX0_copyFrom_33 : decode cX0_copyFrom 33 = .ok (.aload_n 1, 1) := by decide +kernel
theorem dX0_copyFrom_34 : decode cX0_copyFrom 34 = .ok (.getfield 59, 3) := by decide +kernel
theorem dX0_copyFrom_37 : decode cX0_copyFrom 37 = .ok (.putfield 59, 3) := by decide +kernel
theorem dX0_copyFrom_40 : decode cX0_copyFrom 40 = .ok (.aload_n 0, 1) := by decide +kernel
theorem dX0_copyFrom_41 : decode cX0_copyFrom 41 = .ok (.aload_n 1, 1) := by decide +kernel
theorem dX0_copyFrom_42 : decode cX0_copyFrom 42 = .ok (.getfield 62, 3) := by decide +kernel
theorem dX0_copyFrom_45 : decode cX0_copyFrom 45 = .ok (.putfield 62, 3) := by decide +kernel
theorem dX0_copyFrom_48 : decode cX0_copyFrom 48 = .ok (.aload_n 0, 1) := by decide +kernel
theorem dX0_copyFrom_49 : decode cX0_copyFrom 49 = .ok (.aload_n 1, 1) := by decide +kernel
theorem dX0_copyFrom_50 : decode cX0_copyFrom 50 = .ok (.getfield 65, 3) := by decide +kernel
theorem dX0_copyFrom_53 : decode cX0_copyFrom 53 = .ok (.putfield 65, 3) := by decide +kernel
theorem dX0_copyFrom_56 : decode cX0_copyFrom 56 = .ok (.aload_n 0, 1) := by decide +kernel
theorem dX0_copyFrom_57 : decode cX0_copyFrom 57 = .ok (.aload_n 1, 1) := by decide +kernel
theorem dX0_copyFrom_58 : decode cX0_copyFrom 58 = .ok (.getfield 68, 3) := by decide +kernel
theorem dX0_copyFrom_61 : decode cX0_copyFrom 61 = .ok (.putfield 68, 3) := by decide +kernel
theorem dX0_copyFrom_64 : decode cX0_copyFrom 64 = .ok (.aload_n 0, 1) := by decide +kernel
theorem dX0_copyFrom_65 : decode cX0_copyFrom 65 = .ok (.aload_n 1, 1) := by decide +kernel
theorem dX0_copyFrom_66 : decode cX0_copyFrom 66 = .ok (.getfield 71, 3) := by decide +kernel
theorem dX0_copyFrom_69 : decode cX0_copyFrom 69 = .ok (.putfield 71, 3) := by decide +kernel
theorem dX0_copyFrom_72 : decode cX0_copyFrom 72 = .ok (.aload_n 0, 1) := by decide +kernel
theorem dX0_copyFrom_73 : decode cX0_copyFrom 73 = .ok (.aload_n 1, 1) := by decide +kernel
theorem dX0_copyFrom_74 : decode cX0_copyFrom 74 = .ok (.getfield 74, 3) := by decide +kernel
theorem dX0_copyFrom_77 : decode cX0_copyFrom 77 = .ok (.putfield 74, 3) := by decide +kernel
theorem dX0_copyFrom_80 : decode cX0_copyFrom 80 = .ok (.aload_n 1, 1) := by decide +kernel
theorem dX0_copyFrom_81 : decode cX0_copyFrom 81 = .ok (.getfield 9, 3) := by decide +kernel
theorem dX0_copyFrom_84 : decode cX0_copyFrom 84 = .ok (.iconst 0, 1) := by decide +kernel
theorem dX0_copyFrom_85 : decode cX0_copyFrom 85 = .ok (.aload_n 0, 1) := by decide +kernel
theorem dX0_copyFrom_86 : decode cX0_copyFrom 86 = .ok (.getfield 9, 3) := by decide +kernel
theorem dX0_copyFrom_89 : decode cX0_copyFrom 89 = .ok (.iconst 0, 1) := by decide +kernel
theorem dX0_copyFrom_90 : decode cX0_copyFrom 90 = .ok (.bipush 8, 2) := by decide +kernel
theorem dX0_copyFrom_92 : decode cX0_copyFrom 92 = .ok (.invokestatic 86, 3) := by decide +kernel
theorem dX0_copyFrom_95 : decode cX0_copyFrom 95 = .ok (.aload_n 1, 1) := by decide +kernel
theorem dX0_copyFrom_96 : decode cX0_copyFrom 96 = .ok (.getfield 15, 3) := by decide +kernel
theorem dX0_copyFrom_99 : decode cX0_copyFrom 99 = .ok (.iconst 0, 1) := by decide +kernel
theorem dX0_copyFrom_100 : decode cX0_copyFrom 100 = .ok (.aload_n 0, 1) := by decide +kernel
theorem dX0_copyFrom_101 : decode cX0_copyFrom 101 = .ok (.getfield 15, 3) := by decide +kernel
theorem dX0_copyFrom_104 : decode cX0_copyFrom 104 = .ok (.iconst 0, 1) := by decide +kernel
theorem dX0_copyFrom_105 : decode cX0_copyFrom 105 = .ok (.bipush 32, 2) := by decide +kernel
theorem dX0_copyFrom_107 : decode cX0_copyFrom 107 = .ok (.invokestatic 86, 3) := by decide +kernel
theorem dX0_copyFrom_110 : decode cX0_copyFrom 110 = .ok (.aload_n 1, 1) := by decide +kernel
theorem dX0_copyFrom_111 : decode cX0_copyFrom 111 = .ok (.getfield 18, 3) := by decide +kernel
theorem dX0_copyFrom_114 : decode cX0_copyFrom 114 = .ok (.iconst 0, 1) := by decide +kernel
theorem dX0_copyFrom_115 : decode cX0_copyFrom 115 = .ok (.aload_n 0, 1) := by decide +kernel
theorem dX0_copyFrom_116 : decode cX0_copyFrom 116 = .ok (.getfield 18, 3) := by decide +kernel
theorem dX0_copyFrom_119 : decode cX0_copyFrom 119 = .ok (.iconst 0, 1) := by decide +kernel
theorem dX0_copyFrom_120 : decode cX0_copyFrom 120 = .ok (.iconst 4, 1) := by decide +kernel
theorem dX0_copyFrom_121 : decode cX0_copyFrom 121 = .ok (.invokestatic 86, 3) := by decide +kernel
theorem dX0_copyFrom_124 : decode cX0_copyFrom 124 = .ok (.aload_n 1, 1) := by decide +kernel
theorem dX0_copyFrom_125 : decode cX0_copyFrom 125 = .ok (.getfield 21, 3) := by decide +kernel
theorem dX0_copyFrom_128 : decode cX0_copyFrom 128 = .ok (.iconst 0, 1) := by decide +kernel
theorem dX0_copyFrom_129 : decode cX0_copyFrom 129 = .ok (.aload_n 0, 1) := by decide +kernel
theorem dX0_copyFrom_130 : decode cX0_copyFrom 130 = .ok (.getfield 21, 3) := by decide +kernel
theorem dX0_copyFrom_133 : decode cX0_copyFrom 133 = .ok (.iconst 0, 1) := by decide +kernel
theorem dX0_copyFrom_134 : decode cX0_copyFrom 134 = .ok (.iconst 4, 1) := by decide +kernel
theorem dX0_copyFrom_135 : decode cX0_copyFrom 135 = .ok (.invokestatic 86, 3) := by decide +kernel
theorem dX0_copyFrom_138 : decode cX0_copyFrom 138 = .ok (.aload_n 1, 1) := by decide +kernel
theorem dX0_copyFrom_139 : decode cX0_copyFrom 139 = .ok (.getfield 24, 3) := by decide +kernel
theorem dX0_copyFrom_142 : decode cX0_copyFrom 142 = .ok (.iconst 0, 1) := by decide +kernel
theorem dX0_copyFrom_143 : decode cX0_copyFrom 143 = .ok (.aload_n 0, 1) := by decide +kernel
theorem dX0_copyFrom_144 : decode cX0_copyFrom 144 = .ok (.getfield 24, 3) := by decide +kernel
theorem dX0_copyFrom_147 : decode cX0_copyFrom 147 = .ok (.iconst 0, 1) := by decide +kernel
theorem dX0_copyFrom_148 : decode cX0_copyFrom 148 = .ok (.bipush 8, 2) := by decide +kernel
theorem dX0_copyFrom_150 : decode cX0_copyFrom 150 = .ok (.invokestatic 86, 3) := by decide +kernel
theorem dX0_copyFrom_153 : decode cX0_copyFrom 153 = .ok (.aload_n 1, 1) := by decide +kernel
theorem dX0_copyFrom_154 : decode cX0_copyFrom 154 = .ok (.getfield 27, 3) := by decide +kernel
theorem dX0_copyFrom_157 : decode cX0_copyFrom 157 = .ok (.iconst 0, 1) := by decide +kernel
theorem dX0_copyFrom_158 : decode cX0_copyFrom 158 = .ok (.aload_n 0, 1) := by decide +kernel
theorem dX0_copyFrom_159 : decode cX0_copyFrom 159 = .ok (.getfield 27, 3) := by decide +kernel
theorem dX0_copyFrom_162 : decode cX0_copyFrom 162 = .ok (.iconst 0, 1) := by decide +kernel
theorem dX0_copyFrom_163 : decode cX0_copyFrom 163 = .ok (.bipush 8, 2) := by decide +kernel
theorem dX0_copyFrom_165 : decode cX0_copyFrom 165 = .ok (.invokestatic 86, 3) := by decide +kernel
theorem dX0_copyFrom_168 : decode cX0_copyFrom 168 = .ok (.aload_n 1, 1) := by decide +kernel
theorem dX0_copyFrom_169 : decode cX0_copyFrom 169 = .ok (.getfield 30, 3) := by decide +kernel
theorem dX0_copyFrom_172 : decode cX0_copyFrom 172 = .ok (.iconst 0, 1) := by decide +kernel
theorem dX0_copyFrom_173 : decode cX0_copyFrom 173 = .ok (.aload_n 0, 1) := by decide +kernel
theorem dX0_copyFrom_174 : decode cX0_copyFrom 174 = .ok (.getfield 30, 3) := by decide +kernel
theorem dX0_copyFrom_177 : decode cX0_copyFrom 177 = .ok (.iconst 0, 1) := by decide +kernel
theorem dX0_copyFrom_178 : decode cX0_copyFrom 178 = .ok (.iconst 4, 1) := by decide +kernel
theorem dX0_copyFrom_179 : decode cX0_copyFrom 179 = .ok (.invokestatic 86, 3) := by decide +kernel
theorem dX0_copyFrom_182 : decode cX0_copyFrom 182 = .ok (.aload_n 1, 1) := by decide +kernel
theorem dX0_copyFrom_183 : decode cX0_copyFrom 183 = .ok (.getfield 33, 3) := by decide +kernel
theorem dX0_copyFrom_186 : decode cX0_copyFrom 186 = .ok (.iconst 0, 1) := by decide +kernel
theorem dX0_copyFrom_187 : decode cX0_copyFrom 187 = .ok (.aload_n 0, 1) := by decide +kernel
theorem dX0_copyFrom_188 : decode cX0_copyFrom 188 = .ok (.getfield 33, 3) := by decide +kernel
theorem dX0_copyFrom_191 : decode cX0_copyFrom 191 = .ok (.iconst 0, 1) := by decide +kernel
theorem dX0_copyFrom_192 : decode cX0_copyFrom 192 = .ok (.bipush 20, 2) := by decide +kernel
theorem dX0_copyFrom_194 : decode cX0_copyFrom 194 = .ok (.invokestatic 86, 3) := by decide +kernel
theorem dX0_copyFrom_197 : decode cX0_copyFrom 197 = .ok (.aload_n 1, 1) := by decide +kernel
theorem dX0_copyFrom_198 : decode cX0_copyFrom 198 = .ok (.getfield 36, 3) := by decide +kernel
theorem dX0_copyFrom_201 : decode cX0_copyFrom 201 = .ok (.iconst 0, 1) := by decide +kernel
theorem dX0_copyFrom_202 : decode cX0_copyFrom 202 = .ok (.aload_n 0, 1) := by decide +kernel
theorem dX0_copyFrom_203 : decode cX0_copyFrom 203 = .ok (.getfield 36, 3) := by decide +kernel
theorem dX0_copyFrom_206 : decode cX0_copyFrom 206 = .ok (.iconst 0, 1) := by decide +kernel
theorem dX0_copyFrom_207 : decode cX0_copyFrom 207 = .ok (.bipush 6, 2) := by decide +kernel
theorem dX0_copyFrom_209 : decode cX0_copyFrom 209 = .ok (.invokestatic 86, 3) := by decide +kernel
theorem dX0_copyFrom_212 : decode cX0_copyFrom 212 = .ok (.aload_n 0, 1) := by decide +kernel
theorem dX0_copyFrom_213 : decode cX0_copyFrom 213 = .ok (.getfield 42, 3) := by decide +kernel
theorem dX0_copyFrom_216 : decode cX0_copyFrom 216 = .ok (.aload_n 1, 1) := by decide +kernel
theorem dX0_copyFrom_217 : decode cX0_copyFrom 217 = .ok (.getfield 42, 3) := by decide +kernel
theorem dX0_copyFrom_220 : decode cX0_copyFrom 220 = .ok (.invokevirtual 92, 3) := by decide +kernel
theorem dX0_copyFrom_223 : decode cX0_copyFrom 223 = .ok (.return_, 1) := by decide +kernel
theorem dX11_back_0 : decode cX11_back 0 = .ok (.iload_n 1, 1) := by decide +kernel
theorem dX11_back_1 : decode cX11_back 1 = .ok (.ifCond .lt 8, 3) := by decide +kernel
theorem dX11_back_4 : decode cX11_back 4 = .ok (.iload_n 1, 1) := by decide +kernel
theorem dX11_back_5 : decode cX11_back 5 = .ok (.iconst 3, 1) := by decide +kernel
theorem dX11_back_6 : decode cX11_back 6 = .ok (.if_icmp .lt 6, 3) := by decide +kernel
theorem dX11_back_9 : decode cX11_back 9 = .ok (.bipush (-2), 2) := by decide +kernel
theorem dX11_back_11 : decode cX11_back 11 = .ok (.ireturn, 1) := by decide +kernel
theorem dX11_back_12 : decode cX11_back 12 = .ok (.aload_n 0, 1) := by decide +kernel
theorem dX11_back_13 : decode cX11_back 13 = .ok (.getfield 23, 3) := by decide +kernel
theorem dX11_back_16 : decode cX11_back 16 = .ok (.iload_n 1, 1) := by decide +kernel
theorem dX11_back_17 : decode cX11_back 17 = .ok (.aaload, 1) := by decide +kernel
theorem dX11_back_18 : decode cX11_back 18 = .ok (.astore_n 2, 1) := by decide +kernel
theorem dX11_back_19 : decode cX11_back 19 = .ok (.aload_n 2, 1) := by decide +kernel
theorem dX11_back_20 : decode cX11_back 20 = .ok (.ifnull 12, 3) := by decide +kernel
theorem dX11_back_23 : decode cX11_back 23 = .ok (.aload_n 0, 1) := by decide +kernel
theorem dX11_back_24 : decode cX11_back 24 = .ok (.getfield 27, 3) := by decide +kernel
theorem dX11_back_27 : decode cX11_back 27 = .ok (.iload_n 1, 1) := by decide +kernel
theorem dX11_back_28 : decode cX11_back 28 = .ok (.baload, 1) := by decide +kernel
theorem dX11_back_29 : decode cX11_back 29 = .ok (.ifCond .ne 6, 3) := by decide +kernel
theorem dX11_back_32 : decode cX11_back 32 = .ok (.bipush (-6), 2) := by decide +kernel
theorem dX11_back_34 : decode cX11_back 34 = .ok (.ireturn, 1) := by decide +kernel
theorem dX11_count_0 : decode cX11_count 0 = .ok (.iload_n 1, 1) := by decide +kernel
theorem dX11_count_1 : decode cX11_count 1 = .ok (.tableswitch 174 0 12 #[67, 75, 83, 91, 99, 107, 115, 123, 131, 139, 147, 158, 169], 67) := by decide +kernel
theorem dX11_count_68 : decode cX11_count 68 = .ok (.aload_n 0, 1) := by decide +kernel
theorem dX11_count_69 : decode cX11_count 69 = .ok (.getfield 19, 3) := by decide +kernel
theorem dX11_count_72 : decode cX11_count 72 = .ok (.getfield 264, 3) := by decide +kernel
theorem dX11_count_75 : decode cX11_count 75 = .ok (.ireturn, 1) := by decide +kernel
theorem dX11_count_76 : decode cX11_count 76 = .ok (.aload_n 0, 1) := by decide +kernel
theorem dX11_count_77 : decode cX11_count 77 = .ok (.getfield 19, 3) := by decide +kernel
theorem dX11_count_80 : decode cX11_count 80 = .ok (.getfield 380, 3) := by decide +kernel
theorem dX11_count_83 : decode cX11_count 83 = .ok (.ireturn, 1) := by decide +kernel
theorem dX11_count_84 : decode cX11_count 84 = .ok (.aload_n 0, 1) := by decide +kernel
theorem dX11_count_85 : decode cX11_count 85 = .ok (.getfield 19, 3) := by decide +kernel
theorem dX11_count_88 : decode cX11_count 88 = .ok (.getfield 230, 3) := by decide +kernel
theorem dX11_count_91 : decode cX11_count 91 = .ok (.ireturn, 1) := by decide +kernel
theorem dX11_count_92 : decode cX11_count 92 = .ok (.aload_n 0, 1) := by decide +kernel
theorem dX11_count_93 : decode cX11_count 93 = .ok (.getfield 19, 3) := by decide +kernel
theorem dX11_count_96 : decode cX11_count 96 = .ok (.getfield 383, 3) := by decide +kernel
theorem dX11_count_99 : decode cX11_count 99 = .ok (.ireturn, 1) := by decide +kernel
theorem dX11_count_100 : decode cX11_count 100 = .ok (.aload_n 0, 1) := by decide +kernel
theorem dX11_count_101 : decode cX11_count 101 = .ok (.getfield 19, 3) := by decide +kernel
theorem dX11_count_104 : decode cX11_count 104 = .ok (.getfield 386, 3) := by decide +kernel
theorem dX11_count_107 : decode cX11_count 107 = .ok (.ireturn, 1) := by decide +kernel
theorem dX11_count_108 : decode cX11_count 108 = .ok (.aload_n 0, 1) := by decide +kernel
theorem dX11_count_109 : decode cX11_count 109 = .ok (.getfield 19, 3) := by decide +kernel
theorem dX11_count_112 : decode cX11_count 112 = .ok (.getfield 270, 3) := by decide +kernel
theorem dX11_count_115 : decode cX11_count 115 = .ok (.ireturn, 1) := by decide +kernel
theorem dX11_count_116 : decode cX11_count 116 = .ok (.aload_n 0, 1) := by decide +kernel
theorem dX11_count_117 : decode cX11_count 117 = .ok (.getfield 19, 3) := by decide +kernel
theorem dX11_count_120 : decode cX11_count 120 = .ok (.getfield 180, 3) := by decide +kernel
theorem dX11_count_123 : decode cX11_count 123 = .ok (.ireturn, 1) := by decide +kernel
theorem dX11_count_124 : decode cX11_count 124 = .ok (.aload_n 0, 1) := by decide +kernel
theorem dX11_count_125 : decode cX11_count 125 = .ok (.getfield 19, 3) := by decide +kernel
theorem dX11_count_128 : decode cX11_count 128 = .ok (.getfield 389, 3) := by decide +kernel
theorem dX11_count_131 : decode cX11_count 131 = .ok (.ireturn, 1) := by decide +kernel
theorem dX11_count_132 : decode cX11_count 132 = .ok (.aload_n 0, 1) := by decide +kernel
theorem dX11_count_133 : decode cX11_count 133 = .ok (.getfield 19, 3) := by decide +kernel
theorem dX11_count_136 : decode cX11_count 136 = .ok (.getfield 392, 3) := by decide +kernel
theorem dX11_count_139 : decode cX11_count 139 = .ok (.ireturn, 1) := by decide +kernel
theorem dX11_count_140 : decode cX11_count 140 = .ok (.aload_n 0, 1) := by decide +kernel
theorem dX11_count_141 : decode cX11_count 141 = .ok (.getfield 19, 3) := by decide +kernel
theorem dX11_count_144 : decode cX11_count 144 = .ok (.getfield 105, 3) := by decide +kernel
theorem dX11_count_147 : decode cX11_count 147 = .ok (.ireturn, 1) := by decide +kernel
theorem dX11_count_148 : decode cX11_count 148 = .ok (.aload_n 0, 1) := by decide +kernel
theorem dX11_count_149 : decode cX11_count 149 = .ok (.getfield 10, 3) := by decide +kernel
theorem dX11_count_152 : decode cX11_count 152 = .ok (.getfield 80, 3) := by decide +kernel
theorem dX11_count_155 : decode cX11_count 155 = .ok (.getfield 84, 3) := by decide +kernel
theorem dX11_count_158 : decode cX11_count 158 = .ok (.ireturn, 1) := by decide +kernel
theorem dX11_count_159 : decode cX11_count 159 = .ok (.aload_n 0, 1) := by decide +kernel
theorem dX11_count_160 : decode cX11_count 160 = .ok (.getfield 19, 3) := by decide +kernel
theorem dX11_count_163 : decode cX11_count 163 = .ok (.getfield 355, 3) := by decide +kernel
theorem dX11_count_166 : decode cX11_count 166 = .ok (.getfield 359, 3) := by decide +kernel
theorem dX11_count_169 : decode cX11_count 169 = .ok (.ireturn, 1) := by decide +kernel
theorem dX11_count_170 : decode cX11_count 170 = .ok (.aload_n 0, 1) := by decide +kernel
theorem dX11_count_171 : decode cX11_count 171 = .ok (.invokevirtual 395, 3) := by decide +kernel
theorem dX11_count_174 : decode cX11_count 174 = .ok (.ireturn, 1) := by decide +kernel
theorem dX11_count_175 : decode cX11_count 175 = .ok (.iconst (-1), 1) := by decide +kernel
theorem dX11_count_176 : decode cX11_count 176 = .ok (.ireturn, 1) := by decide +kernel
theorem dX11_countRows_0 : decode cX11_countRows 0 = .ok (.iconst 0, 1) := by decide +kernel
theorem dX11_countRows_1 : decode cX11_countRows 1 = .ok (.istore_n 1, 1) := by decide +kernel
theorem dX11_countRows_2 : decode cX11_countRows 2 = .ok (.iconst 0, 1) := by decide +kernel
theorem dX11_countRows_3 : decode cX11_countRows 3 = .ok (.istore_n 2, 1) := by decide +kernel
theorem dX11_countRows_4 : decode cX11_countRows 4 = .ok (.iload_n 2, 1) := by decide +kernel
theorem dX11_countRows_5 : decode cX11_countRows 5 = .ok (.iconst 4, 1) := by decide +kernel
theorem dX11_countRows_6 : decode cX11_countRows 6 = .ok (.if_icmp .ge 20, 3) := by decide +kernel
theorem dX11_countRows_9 : decode cX11_countRows 9 = .ok (.aload_n 0, 1) := by decide +kernel
theorem dX11_countRows_10 : decode cX11_countRows 10 = .ok (.iload_n 2, 1) := by decide +kernel
theorem dX11_countRows_11 : decode cX11_countRows 11 = .ok (.invokevirtual 404, 3) := by decide +kernel
theorem dX11_countRows_14 : decode cX11_countRows 14 = .ok (.ifnull 6, 3) := by decide +kernel
theorem dX11_countRows_20 : decode cX11_countRows 20 = .ok (.iinc 2 1, 3) := by decide +kernel
theorem dX11_countRows_23 : decode cX11_countRows 23 = .ok (.goto (-19), 3) := by decide +kernel
theorem dX11_countRows_26 : decode cX11_countRows 26 = .ok (.iload_n 1, 1) := by decide +kernel
theorem dX11_countRows_27 : decode cX11_countRows 27 = .ok (.ireturn, 1) := by decide +kernel
theorem dX11_desk_0 : decode cX11_desk 0 = .ok (.aload_n 0, 1) := by decide +kernel
theorem dX11_desk_1 : decode cX11_desk 1 = .ok (.getfield 10, 3) := by decide +kernel
theorem dX11_desk_4 : decode cX11_desk 4 = .ok (.invokevirtual 94, 3) := by decide +kernel
theorem dX11_desk_7 : decode cX11_desk 7 = .ok (.ifCond .ne 6, 3) := by decide +kernel
theorem dX11_desk_13 : decode cX11_desk 13 = .ok (.aload_n 0, 1) := by decide +kernel
theorem dX11_desk_14 : decode cX11_desk 14 = .ok (.getfield 19, 3) := by decide +kernel
theorem dX11_desk_17 : decode cX11_desk 17 = .ok (.aload_n 0, 1) := by decide +kernel
theorem dX11_desk_18 : decode cX11_desk 18 = .ok (.getfield 10, 3) := by decide +kernel
theorem dX11_desk_21 : decode cX11_desk 21 = .ok (.getfield 98, 3) := by decide +kernel
theorem dX11_desk_24 : decode cX11_desk 24 = .ok (.invokevirtual 101, 3) := by decide +kernel
theorem dX11_desk_27 : decode cX11_desk 27 = .ok (.aload_n 0, 1) := by decide +kernel
theorem dX11_desk_28 : decode cX11_desk 28 = .ok (.getfield 10, 3) := by decide +kernel
theorem dX11_desk_31 : decode cX11_desk 31 = .ok (.getfield 80, 3) := by decide +kernel
theorem dX11_desk_34 : decode cX11_desk 34 = .ok (.iconst 0, 1) := by decide +kernel
theorem dX11_desk_35 : decode cX11_desk 35 = .ok (.putfield 84, 3) := by decide +kernel
theorem dX11_desk_38 : decode cX11_desk 38 = .ok (.aload_n 0, 1) := by decide +kernel
theorem dX11_desk_39 : decode cX11_desk 39 = .ok (.getfield 19, 3) := by decide +kernel
theorem dX11_desk_42 : decode cX11_desk 42 = .ok (.getfield 105, 3) := by decide +kernel
theorem dX11_desk_45 : decode cX11_desk 45 = .ok (.ireturn, 1) := by decide +kernel
theorem dX11_end_0 : decode cX11_end 0 = .ok (.iload_n 1, 1) := by decide +kernel
theorem dX11_end_1 : decode cX11_end 1 = .ok (.ifCond .lt 17, 3) := by decide +kernel
theorem dX11_end_4 : decode cX11_end 4 = .ok (.iload_n 1, 1) := by decide +kernel
theorem dX11_end_5 : decode cX11_end 5 = .ok (.aload_n 0, 1) := by decide +kernel
theorem dX11_end_6 : decode cX11_end 6 = .ok (.getfield 10, 3) := by decide +kernel
theorem dX11_end_9 : decode cX11_end 9 = .ok (.getfield 80, 3) := by decide +kernel
theorem dX11_end_12 : decode cX11_end 12 = .ok (.getfield 84, 3) := by decide +kernel
theorem dX11_end_15 : decode cX11_end 15 = .ok (.if_icmp .le 5, 3) := by decide +kernel
theorem dX11_end_18 : decode cX11_end 18 = .ok (.iconst (-1), 1) := by decide +kernel
theorem dX11_end_19 : decode cX11_end 19 = .ok (.ireturn, 1) := by decide +kernel
theorem dX11_end_20 : decode cX11_end 20 = .ok (.aload_n 0, 1) := by decide +kernel
theorem dX11_end_21 : decode cX11_end 21 = .ok (.getfield 10, 3) := by decide +kernel
theorem dX11_end_24 : decode cX11_end 24 = .ok (.getfield 80, 3) := by decide +kernel
theorem dX11_end_27 : decode cX11_end 27 = .ok (.iload_n 1, 1) := by decide +kernel
theorem dX11_end_28 : decode cX11_end 28 = .ok (.putfield 84, 3) := by decide +kernel
theorem dX11_end_31 : decode cX11_end 31 = .ok (.iload_n 1, 1) := by decide +kernel
theorem dX11_end_32 : decode cX11_end 32 = .ok (.ireturn, 1) := by decide +kernel
theorem dX11_fault_0 : decode cX11_fault 0 = .ok (.iload_n 1, 1) := by decide +kernel
theorem dX11_fault_1 : decode cX11_fault 1 = .ok (.ifCond .ne 11, 3) := by decide +kernel
theorem dX11_fault_4 : decode cX11_fault 4 = .ok (.aload_n 0, 1) := by decide +kernel
theorem dX11_fault_5 : decode cX11_fault 5 = .ok (.getfield 10, 3) := by decide +kernel
theorem dX11_fault_8 : decode cX11_fault 8 = .ok (.getfield 108, 3) := by decide +kernel
theorem dX11_fault_11 : decode cX11_fault 11 = .ok (.ireturn, 1) := by decide +kernel
theorem dX11_fault_12 : decode cX11_fault 12 = .ok (.iload_n 1, 1) := by decide +kernel
theorem dX11_fault_13 : decode cX11_fault 13 = .ok (.iconst 1, 1) := by decide +kernel
theorem dX11_fault_14 : decode cX11_fault 14 = .ok (.if_icmp .ne 13, 3) := by decide +kernel
theorem dX11_fault_17 : decode cX11_fault 17 = .ok (.aload_n 0, 1) := by decide +kernel
theorem dX11_fault_18 : decode cX11_fault 18 = .ok (.getfield 10, 3) := by decide +kernel
theorem dX11_fault_21 : decode cX11_fault 21 = .ok (.getfield 111, 3) := by decide +kernel
theorem dX11_fault_24 : decode cX11_fault 24 = .ok (.goto 4, 3) := by decide +kernel
theorem dX11_fault_27 : decode cX11_fault 27 = .ok (.iconst (-1), 1) := by decide +kernel
theorem dX11_fault_28 : decode cX11_fault 28 = .ok (.ireturn, 1) := by decide +kernel
theorem dX11_feed_0 : decode cX11_feed 0 = .ok (.aload_n 0, 1) := by decide +kernel
theorem dX11_feed_1 : decode cX11_feed 1 = .ok (.getfield 10, 3) := by decide +kernel
theorem dX11_feed_4 : decode cX11_feed 4 = .ok (.getfield 80, 3) := by decide +kernel
theorem dX11_feed_7 : decode cX11_feed 7 = .ok (.astore 6, 2) := by decide +kernel
theorem dX11_feed_9 : decode cX11_feed 9 = .ok (.aload 6, 2) := by decide +kernel
theorem dX11_feed_11 : decode cX11_feed 11 = .ok (.getfield 84, 3) := by decide +kernel
theorem dX11_feed_14 : decode cX11_feed 14 = .ok (.sipush 880, 3) := by decide +kernel
theorem dX11_feed_17 : decode cX11_feed 17 = .ok (.if_icmp .le 5, 3) := by decide +kernel
theorem dX11_feed_22 : decode cX11_feed 22 = .ok (.aload 6, 2) := by decide +kernel
theorem dX11_feed_24 : decode cX11_feed 24 = .ok (.iload_n 1, 1) := by decide +kernel
theorem dX11_feed_25 : decode cX11_feed 25 = .ok (.invokevirtual 90, 3) := by decide +kernel
theorem dX11_feed_28 : decode cX11_feed 28 = .ok (.aload 6, 2) := by decide +kernel
theorem dX11_feed_30 : decode cX11_feed 30 = .ok (.iload_n 2, 1) := by decide +kernel
theorem dX11_feed_31 : decode cX11_feed 31 = .ok (.invokevirtual 90, 3) := by decide +kernel
theorem dX11_feed_34 : decode cX11_feed 34 = .ok (.aload 6, 2) := by decide +kernel
theorem dX11_feed_36 : decode cX11_feed 36 = .ok (.iload_n 3, 1) := by decide +kernel
theorem dX11_feed_37 : decode cX11_feed 37 = .ok (.invokevirtual 90, 3) := by decide +kernel
theorem dX11_feed_40 : decode cX11_feed 40 = .ok (.aload 6, 2) := by decide +kernel
theorem dX11_feed_42 : decode cX11_feed 42 = .ok (.iload 4, 2) := by decide +kernel
theorem dX11_feed_44 : decode cX11_feed 44 = .ok (.invokevirtual 90, 3) := by decide +kernel
theorem dX11_feed_47 : decode cX11_feed 47 = .ok (.aload 6, 2) := by decide +kernel
theorem dX11_feed_49 : decode cX11_feed 49 = .ok (.iload 5, 2) := by decide +kernel
theorem dX11_feed_51 : decode cX11_feed 51 = .ok (.invokevirtual 90, 3) := by decide +kernel
theorem dX11_feed_54 : decode cX11_feed 54 = .ok (.aload 6, 2) := by decide +kernel
theorem dX11_feed_56 : decode cX11_feed 56 = .ok (.getfield 84, 3) := by decide +kernel
theorem dX11_feed_59 : decode cX11_feed 59 = .ok (.ireturn, 1) := by decide +kernel
theorem dX11_image_0 : decode cX11_image 0 = .ok (.iload_n 1, 1) := by decide +kernel
theorem dX11_image_1 : decode cX11_image 1 = .ok (.ifCond .lt 8, 3) := by decide +kernel
theorem dX11_image_4 : decode cX11_image 4 = .ok (.iload_n 1, 1) := by decide +kernel
theorem dX11_image_5 : decode cX11_image 5 = .ok (.iconst 3, 1) := by decide +kernel
theorem dX11_image_6 : decode cX11_image 6 = .ok (.if_icmp .lt 6, 3) := by decide +kernel
theorem dX11_image_9 : decode cX11_image 9 = .ok (.bipush (-2), 2) := by decide +kernel
theorem dX11_image_11 : decode cX11_image 11 = .ok (.ireturn, 1) := by decide +kernel
theorem dX11_image_12 : decode cX11_image 12 = .ok (.aload_n 0, 1) := by decide +kernel
theorem dX11_image_13 : decode cX11_image 13 = .ok (.getfield 23, 3) := by decide +kernel
theorem dX11_image_16 : decode cX11_image 16 = .ok (.iload_n 1, 1) := by decide +kernel
theorem dX11_image_17 : decode cX11_image 17 = .ok (.aaload, 1) := by decide +kernel
theorem dX11_image_18 : decode cX11_image 18 = .ok (.astore_n 2, 1) := by decide +kernel
theorem dX11_image_19 : decode cX11_image 19 = .ok (.aload_n 2, 1) := by decide +kernel
theorem dX11_image_20 : decode cX11_image 20 = .ok (.ifnonnull 6, 3) := by decide +kernel
theorem dX11_image_26 : decode cX11_image 26 = .ok (.aload_n 2, 1) := by decide +kernel
theorem dX11_image_27 : decode cX11_image 27 = .ok (.aload_n 0, 1) := by decide +kernel
theorem dX11_image_28 : decode cX11_image 28 = .ok (.getfield 19, 3) := by decide +kernel
theorem dX11_image_31 : decode cX11_image 31 = .ok (.invokevirtual 101, 3) := by decide +kernel
theorem dX11_image_34 : decode cX11_image 34 = .ok (.aload_n 0, 1) := by decide +kernel
theorem dX11_image_35 : decode cX11_image 35 = .ok (.getfield 27, 3) := by decide +kernel
theorem dX11_image_38 : decode cX11_image 38 = .ok (.iload_n 1, 1) := by decide +kernel
theorem dX11_image_39 : decode cX11_image 39 = .ok (.iconst 1, 1) := by decide +kernel
theorem dX11_image_40 : decode cX11_image 40 = .ok (.bastore, 1) := by decide +kernel
theorem dX11_image_41 : decode cX11_image 41 = .ok (.iconst 0, 1) := by decide +kernel
theorem dX11_image_42 : decode cX11_image 42 = .ok (.ireturn, 1) := by decide +kernel
theorem dX11_paste_0 : decode cX11_paste 0 = .ok (.iload_n 1, 1) := by decide +kernel
theorem dX11_paste_1 : decode cX11_paste 1 = .ok (.invokestatic 398, 3) := by decide +kernel
theorem dX11_paste_4 : decode cX11_paste 4 = .ok (.ifCond .eq 10, 3) := by decide +kernel
theorem dX11_paste_7 : decode cX11_paste 7 = .ok (.iload_n 3, 1) := by decide +kernel
theorem dX11_paste_8 : decode cX11_paste 8 = .ok (.invokestatic 398, 3) := by decide +kernel
theorem dX11_paste_11 : decode cX11_paste 11 = .ok (.ifCond .ne 6, 3) := by decide +kernel
theorem dX11_paste_14 : decode cX11_paste 14 = .ok (.bipush (-2), 2) := by decide +kernel
theorem dX11_paste_16 : decode cX11_paste 16 = .ok (.ireturn, 1) := by decide +kernel
theorem dX11_paste_17 : decode cX11_paste 17 = .ok (.aload_n 0, 1) := by decide +kernel
theorem dX11_paste_18 : decode cX11_paste 18 = .ok (.iload_n 1, 1) := by decide +kernel
theorem dX11_paste_19 : decode cX11_paste 19 = .ok (.invokevirtual 404, 3) := by decide +kernel
theorem dX11_paste_22 : decode cX11_paste 22 = .ok (.astore 6, 2) := by decide +kernel
theorem dX11_paste_24 : decode cX11_paste 24 = .ok (.aload_n 0, 1) := by decide +kernel
theorem dX11_paste_25 : decode cX11_paste 25 = .ok (.iload_n 3, 1) := by decide +kernel
theorem dX11_paste_26 : decode cX11_paste 26 = .ok (.invokevirtual 404, 3) := by decide +kernel
theorem dX11_paste_29 : decode cX11_paste 29 = .ok (.astore 7, 2) := by decide +kernel
theorem dX11_paste_31 : decode cX11_paste 31 = .ok (.aload 6, 2) := by decide +kernel
theorem dX11_paste_33 : decode cX11_paste 33 = .ok (.ifnull 8, 3) := by decide +kernel
theorem dX11_paste_41 : decode cX11_paste 41 = .ok (.bipush (-6), 2) := by decide +kernel
theorem dX11_paste_43 : decode cX11_paste 43 = .ok (.ireturn, 1) := by decide +kernel
theorem dX11_row_0 : decode cX11_row 0 = .ok (.iload_n 1, 1) := by decide +kernel
theorem dX11_row_1 : decode cX11_row 1 = .ok (.invokestatic 398, 3) := by decide +kernel
theorem dX11_row_4 : decode cX11_row 4 = .ok (.ifCond .eq 18, 3) := by decide +kernel
theorem dX11_row_7 : decode cX11_row 7 = .ok (.iload_n 2, 1) := by decide +kernel
theorem dX11_row_8 : decode cX11_row 8 = .ok (.ifCond .lt 14, 3) := by decide +kernel
theorem dX11_row_11 : decode cX11_row 11 = .ok (.iload_n 2, 1) := by decide +kernel
theorem dX11_row_12 : decode cX11_row 12 = .ok (.iconst 4, 1) := by decide +kernel
theorem dX11_row_13 : decode cX11_row 13 = .ok (.if_icmp .ge 9, 3) := by decide +kernel
theorem dX11_row_16 : decode cX11_row 16 = .ok (.iload_n 3, 1) := by decide +kernel
theorem dX11_row_17 : decode cX11_row 17 = .ok (.bipush 60, 2) := by decide +kernel
theorem dX11_row_19 : decode cX11_row 19 = .ok (.if_icmp .le 6, 3) := by decide +kernel
theorem dX11_row_22 : decode cX11_row 22 = .ok (.bipush (-2), 2) := by decide +kernel
theorem dX11_row_24 : decode cX11_row 24 = .ok (.ireturn, 1) := by decide +kernel
theorem dX11_row_25 : decode cX11_row 25 = .ok (.iload_n 3, 1) := by decide +kernel
theorem dX11_row_26 : decode cX11_row 26 = .ok (.ifCond .ge 6, 3) := by decide +kernel
theorem dX11_row_29 : decode cX11_row 29 = .ok (.bipush (-3), 2) := by decide +kernel
theorem dX11_row_31 : decode cX11_row 31 = .ok (.ireturn, 1) := by decide +kernel
theorem dX11_row_32 : decode cX11_row 32 = .ok (.aload_n 0, 1) := by decide +kernel
theorem dX11_row_33 : decode cX11_row 33 = .ok (.getfield 33, 3) := by decide +kernel
theorem dX11_row_36 : decode cX11_row 36 = .ok (.iload_n 1, 1) := by decide +kernel
theorem dX11_row_37 : decode cX11_row 37 = .ok (.aaload, 1) := by decide +kernel
theorem dX11_row_38 : decode cX11_row 38 = .ok (.astore 4, 2) := by decide +kernel
theorem dX11_row_40 : decode cX11_row 40 = .ok (.aload 4, 2) := by decide +kernel
theorem dX11_row_42 : decode cX11_row 42 = .ok (.ifnonnull 6, 3) := by decide +kernel
theorem dX11_row_48 : decode cX11_row 48 = .ok (.aload 4, 2) := by decide +kernel
theorem dX11_row_50 : decode cX11_row 50 = .ok (.iload_n 2, 1) := by decide +kernel
theorem dX11_row_51 : decode cX11_row 51 = .ok (.iload_n 3, 1) := by decide +kernel
theorem dX11_row_52 : decode cX11_row 52 = .ok (.invokevirtual 401, 3) := by decide +kernel
theorem dX11_row_55 : decode cX11_row 55 = .ok (.iconst 0, 1) := by decide +kernel
theorem dX11_row_56 : decode cX11_row 56 = .ok (.ireturn, 1) := by decide +kernel
theorem dX11_rowOf_0 : decode cX11_rowOf 0 = .ok (.iload_n 1, 1) := by decide +kernel
theorem dX11_rowOf_1 : decode cX11_rowOf 1 = .ok (.invokestatic 398, 3) := by decide +kernel
theorem dX11_rowOf_4 : decode cX11_rowOf 4 = .ok (.ifCond .eq 12, 3) := by decide +kernel
theorem dX11_rowOf_7 : decode cX11_rowOf 7 = .ok (.aload_n 0, 1) := by decide +kernel
theorem dX11_rowOf_8 : decode cX11_rowOf 8 = .ok (.getfield 33, 3) := by decide +kernel
theorem dX11_rowOf_11 : decode cX11_rowOf 11 = .ok (.iload_n 1, 1) := by decide +kernel
theorem dX11_rowOf_12 : decode cX11_rowOf 12 = .ok (.aaload, 1) := by decide +kernel
theorem dX11_rowOf_13 : decode cX11_rowOf 13 = .ok (.goto 4, 3) := by decide +kernel
theorem dX11_rowOf_16 : decode cX11_rowOf 16 = .ok (.aconst_null, 1) := by decide +kernel
theorem dX11_rowOf_17 : decode cX11_rowOf 17 = .ok (.astore_n 2, 1) := by decide +kernel
theorem dX11_rowOf_18 : decode cX11_rowOf 18 = .ok (.aload_n 2, 1) := by decide +kernel
theorem dX11_rowOf_19 : decode cX11_rowOf 19 = .ok (.ifnull 14, 3) := by decide +kernel
theorem dX11_rowOf_22 : decode cX11_rowOf 22 = .ok (.aload_n 2, 1) := by decide +kernel
theorem dX11_rowOf_23 : decode cX11_rowOf 23 = .ok (.getfield 430, 3) := by decide +kernel
theorem dX11_rowOf_26 : decode cX11_rowOf 26 = .ok (.ifCond .eq 7, 3) := by decide +kernel
theorem dX11_rowOf_33 : decode cX11_rowOf 33 = .ok (.aconst_null, 1) := by decide +kernel
theorem dX11_rowOf_34 : decode cX11_rowOf 34 = .ok (.areturn, 1) := by decide +kernel
theorem dX11_write_0 : decode cX11_write 0 = .ok (.iload_n 1, 1) := by decide +kernel
theorem dX11_write_1 : decode cX11_write 1 = .ok (.invokestatic 398, 3) := by decide +kernel
theorem dX11_write_4 : decode cX11_write 4 = .ok (.ifCond .ne 6, 3) := by decide +kernel
theorem dX11_write_7 : decode cX11_write 7 = .ok (.bipush (-2), 2) := by decide +kernel
theorem dX11_write_9 : decode cX11_write 9 = .ok (.ireturn, 1) := by decide +kernel
theorem dX11_write_10 : decode cX11_write 10 = .ok (.aload_n 0, 1) := by decide +kernel
theorem dX11_write_11 : decode cX11_write 11 = .ok (.iload_n 1, 1) := by decide +kernel
theorem dX11_write_12 : decode cX11_write 12 = .ok (.invokevirtual 404, 3) := by decide +kernel
theorem dX11_write_15 : decode cX11_write 15 = .ok (.astore 5, 2) := by decide +kernel
theorem dX11_write_17 : decode cX11_write 17 = .ok (.aload 5, 2) := by decide +kernel
theorem dX11_write_19 : decode cX11_write 19 = .ok (.ifnonnull 6, 3) := by decide +kernel
theorem dX11_write_22 : decode cX11_write 22 = .ok (.bipush (-6), 2) := by decide +kernel
theorem dX11_write_24 : decode cX11_write 24 = .ok (.ireturn, 1) := by decide +kernel
theorem dX1_readDesk_0 : decode cX1_readDesk 0 = .ok (.aload_n 0, 1) := by decide +kernel
theorem dX1_readDesk_1 : decode cX1_readDesk 1 = .ok (.iconst 0, 1) := by decide +kernel
theorem dX1_readDesk_2 : decode cX1_readDesk 2 = .ok (.putfield 29, 3) := by decide +kernel
theorem dX1_readDesk_5 : decode cX1_readDesk 5 = .ok (.aload_n 0, 1) := by decide +kernel
theorem dX1_readDesk_6 : decode cX1_readDesk 6 = .ok (.iconst (-1), 1) := by decide +kernel
theorem dX1_readDesk_7 : decode cX1_readDesk 7 = .ok (.putfield 25, 3) := by decide +kernel
theorem dX1_readDesk_10 : decode cX1_readDesk 10 = .ok (.aload_n 0, 1) := by decide +kernel
theorem dX1_readDesk_11 : decode cX1_readDesk 11 = .ok (.getfield 21, 3) := by decide +kernel
theorem dX1_readDesk_14 : decode cX1_readDesk 14 = .ok (.invokevirtual 32, 3) := by decide +kernel
theorem dX1_readDesk_17 : decode cX1_readDesk 17 = .ok (.aload_n 0, 1) := by decide +kernel
theorem dX1_readDesk_18 : decode cX1_readDesk 18 = .ok (.getfield 12, 3) := by decide +kernel
theorem dX1_readDesk_21 : decode cX1_readDesk 21 = .ok (.invokevirtual 35, 3) := by decide +kernel
theorem dX1_readDesk_24 : decode cX1_readDesk 24 = .ok (.iconst 0, 1) := by decide +kernel
theorem dX1_readDesk_25 : decode cX1_readDesk 25 = .ok (.istore_n 1, 1) := by decide +kernel
theorem dX1_readDesk_26 : decode cX1_readDesk 26 = .ok (.iload_n 1, 1) := by decide +kernel
theorem dX1_readDesk_27 : decode cX1_readDesk 27 = .ok (.sipush 900, 3) := by decide +kernel
theorem dX1_readDesk_30 : decode cX1_readDesk 30 = .ok (.if_icmp .ge 48, 3) := by decide +kernel
theorem dX1_readDesk_33 : decode cX1_readDesk 33 = .ok (.aload_n 0, 1) := by decide +kernel
theorem dX1_readDesk_34 : decode cX1_readDesk 34 = .ok (.getfield 12, 3) := by decide +kernel
theorem dX1_readDesk_37 : decode cX1_readDesk 37 = .ok (.getfield 38, 3) := by decide +kernel
theorem dX1_readDesk_40 : decode cX1_readDesk 40 = .ok (.ifCond .eq 38, 3) := by decide +kernel
theorem dX1_readDesk_78 : decode cX1_readDesk 78 = .ok (.iconst 1, 1) := by decide +kernel
theorem dX1_readDesk_79 : decode cX1_readDesk 79 = .ok (.ireturn, 1) := by decide +kernel
theorem dX3_takeAll_0 : decode cX3_takeAll 0 = .ok (.aload_n 1, 1) := by decide +kernel
theorem dX3_takeAll_1 : decode cX3_takeAll 1 = .ok (.getfield 9, 3) := by decide +kernel
theorem dX3_takeAll_4 : decode cX3_takeAll 4 = .ok (.iconst 0, 1) := by decide +kernel
theorem dX3_takeAll_5 : decode cX3_takeAll 5 = .ok (.aload_n 0, 1) := by decide +kernel
theorem dX3_takeAll_6 : decode cX3_takeAll 6 = .ok (.getfield 9, 3) := by decide +kernel
theorem dX3_takeAll_9 : decode cX3_takeAll 9 = .ok (.iconst 0, 1) := by decide +kernel
theorem dX3_takeAll_10 : decode cX3_takeAll 10 = .ok (.bipush 60, 2) := by decide +kernel
theorem dX3_takeAll_12 : decode cX3_takeAll 12 = .ok (.invokestatic 25, 3) := by decide +kernel
theorem dX3_takeAll_15 : decode cX3_takeAll 15 = .ok (.aload_n 1, 1) := by decide +kernel
theorem dX3_takeAll_16 : decode cX3_takeAll 16 = .ok (.getfield 15, 3) := by decide +kernel
theorem dX3_takeAll_19 : decode cX3_takeAll 19 = .ok (.iconst 0, 1) := by decide +kernel
theorem dX3_takeAll_20 : decode cX3_takeAll 20 = .ok (.aload_n 0, 1) := by decide +kernel
theorem dX3_takeAll_21 : decode cX3_takeAll 21 = .ok (.getfield 15, 3) := by decide +kernel
theorem dX3_takeAll_24 : decode cX3_takeAll 24 = .ok (.iconst 0, 1) := by decide +kernel
theorem dX3_takeAll_25 : decode cX3_takeAll 25 = .ok (.bipush 60, 2) := by decide +kernel
theorem dX3_takeAll_27 : decode cX3_takeAll 27 = .ok (.invokestatic 25, 3) := by decide +kernel
theorem dX3_takeAll_30 : decode cX3_takeAll 30 = .ok (.aload_n 1, 1) := by decide +kernel
theorem dX3_takeAll_31 : decode cX3_takeAll 31 = .ok (.getfield 18, 3) := by decide +kernel
theorem dX3_takeAll_34 : decode cX3_takeAll 34 = .ok (.iconst 0, 1) := by decide +kernel
theorem dX3_takeAll_35 : decode cX3_takeAll 35 = .ok (.aload_n 0, 1) := by decide +kernel
theorem dX3_takeAll_36 : decode cX3_takeAll 36 = .ok (.getfield 18, 3) := by decide +kernel
theorem dX3_takeAll_39 : decode cX3_takeAll 39 = .ok (.iconst 0, 1) := by decide +kernel
theorem dX3_takeAll_40 : decode cX3_takeAll 40 = .ok (.bipush 60, 2) := by decide +kernel
theorem dX3_takeAll_42 : decode cX3_takeAll 42 = .ok (.invokestatic 25, 3) := by decide +kernel
theorem dX3_takeAll_45 : decode cX3_takeAll 45 = .ok (.aload_n 0, 1) := by decide +kernel
theorem dX3_takeAll_46 : decode cX3_takeAll 46 = .ok (.aload_n 1, 1) := by decide +kernel
theorem dX3_takeAll_47 : decode cX3_takeAll 47 = .ok (.getfield 21, 3) := by decide +kernel
theorem dX3_takeAll_50 : decode cX3_takeAll 50 = .ok (.putfield 21, 3) := by decide +kernel
theorem dX3_takeAll_53 : decode cX3_takeAll 53 = .ok (.return_, 1) := by decide +kernel
theorem dX8_begin_0 : decode cX8_begin 0 = .ok (.aload_n 0, 1) := by decide +kernel
theorem dX8_begin_1 : decode cX8_begin 1 = .ok (.iconst 1, 1) := by decide +kernel
theorem dX8_begin_2 : decode cX8_begin 2 = .ok (.putfield 15, 3) := by decide +kernel
theorem dX8_begin_5 : decode cX8_begin 5 = .ok (.aload_n 0, 1) := by decide +kernel
theorem dX8_begin_6 : decode cX8_begin 6 = .ok (.iload_n 1, 1) := by decide +kernel
theorem dX8_begin_7 : decode cX8_begin 7 = .ok (.putfield 19, 3) := by decide +kernel
theorem dX8_begin_10 : decode cX8_begin 10 = .ok (.aload_n 0, 1) := by decide +kernel
theorem dX8_begin_11 : decode cX8_begin 11 = .ok (.iload_n 2, 1) := by decide +kernel
theorem dX8_begin_12 : decode cX8_begin 12 = .ok (.putfield 23, 3) := by decide +kernel
theorem dX8_begin_15 : decode cX8_begin 15 = .ok (.aload_n 0, 1) := by decide +kernel
theorem dX8_begin_16 : decode cX8_begin 16 = .ok (.getfield 9, 3) := by decide +kernel
theorem dX8_begin_19 : decode cX8_begin 19 = .ok (.lconst 0, 1) := by decide +kernel
theorem dX8_begin_20 : decode cX8_begin 20 = .ok (.invokestatic 26, 3) := by decide +kernel
theorem dX8_begin_23 : decode cX8_begin 23 = .ok (.return_, 1) := by decide +kernel
theorem dX9_advance_0 : decode cX9_advance 0 = .ok (.aload_n 0, 1) := by decide +kernel
theorem dX9_advance_1 : decode cX9_advance 1 = .ok (.aload_n 0, 1) := by decide +kernel
theorem dX9_advance_2 : decode cX9_advance 2 = .ok (.getfield 19, 3) := by decide +kernel
theorem dX9_advance_5 : decode cX9_advance 5 = .ok (.putfield 25, 3) := by decide +kernel
theorem dX9_advance_8 : decode cX9_advance 8 = .ok (.aload_n 0, 1) := by decide +kernel
theorem dX9_advance_9 : decode cX9_advance 9 = .ok (.getfield 25, 3) := by decide +kernel
theorem dX9_advance_12 : decode cX9_advance 12 = .ok (.aload_n 0, 1) := by decide +kernel
theorem dX9_advance_13 : decode cX9_advance 13 = .ok (.getfield 15, 3) := by decide +kernel
theorem dX9_advance_16 : decode cX9_advance 16 = .ok (.if_icmp .ge 32, 3) := by decide +kernel
theorem dX9_advance_48 : decode cX9_advance 48 = .ok (.aload_n 0, 1) := by decide +kernel
theorem dX9_advance_49 : decode cX9_advance 49 = .ok (.aload_n 0, 1) := by decide +kernel
theorem dX9_advance_50 : decode cX9_advance 50 = .ok (.getfield 25, 3) := by decide +kernel
theorem dX9_advance_53 : decode cX9_advance 53 = .ok (.putfield 19, 3) := by decide +kernel
theorem dX9_advance_56 : decode cX9_advance 56 = .ok (.aload_n 0, 1) := by decide +kernel
theorem dX9_advance_57 : decode cX9_advance 57 = .ok (.aload_n 0, 1) := by decide +kernel
theorem dX9_advance_58 : decode cX9_advance 58 = .ok (.getfield 25, 3) := by decide +kernel
theorem dX9_advance_61 : decode cX9_advance 61 = .ok (.aload_n 0, 1) := by decide +kernel
theorem dX9_advance_62 : decode cX9_advance 62 = .ok (.getfield 15, 3) := by decide +kernel
theorem dX9_advance_65 : decode cX9_advance 65 = .ok (.if_icmp .ge 18, 3) := by decide +kernel
theorem dX9_advance_83 : decode cX9_advance 83 = .ok (.iconst 0, 1) := by decide +kernel
theorem dX9_advance_84 : decode cX9_advance 84 = .ok (.putfield 32, 3) := by decide +kernel
theorem dX9_advance_87 : decode cX9_advance 87 = .ok (.aload_n 0, 1) := by decide +kernel
theorem dX9_advance_88 : decode cX9_advance 88 = .ok (.iconst 0, 1) := by decide +kernel
theorem dX9_advance_89 : decode cX9_advance 89 = .ok (.putfield 35, 3) := by decide +kernel
theorem dX9_advance_92 : decode cX9_advance 92 = .ok (.aload_n 0, 1) := by decide +kernel
theorem dX9_advance_93 : decode cX9_advance 93 = .ok (.getfield 32, 3) := by decide +kernel
theorem dX9_advance_96 : decode cX9_advance 96 = .ok (.iconst 3, 1) := by decide +kernel
theorem dX9_advance_97 : decode cX9_advance 97 = .ok (.if_icmp .eq 11, 3) := by decide +kernel
theorem dX9_advance_100 : decode cX9_advance 100 = .ok (.aload_n 0, 1) := by decide +kernel
theorem dX9_advance_101 : decode cX9_advance 101 = .ok (.getfield 32, 3) := by decide +kernel
theorem dX9_advance_104 : decode cX9_advance 104 = .ok (.iconst 4, 1) := by decide +kernel
theorem dX9_advance_105 : decode cX9_advance 105 = .ok (.if_icmp .ne 14, 3) := by decide +kernel
theorem dX9_advance_119 : decode cX9_advance 119 = .ok (.aload_n 0, 1) := by decide +kernel
theorem dX9_advance_120 : decode cX9_advance 120 = .ok (.getfield 19, 3) := by decide +kernel
theorem dX9_advance_123 : decode cX9_advance 123 = .ok (.aload_n 0, 1) := by decide +kernel
theorem dX9_advance_124 : decode cX9_advance 124 = .ok (.getfield 15, 3) := by decide +kernel
theorem dX9_advance_127 : decode cX9_advance 127 = .ok (.if_icmp .ge 72, 3) := by decide +kernel
theorem dX9_advance_199 : decode cX9_advance 199 = .ok (.return_, 1) := by decide +kernel
theorem dX9_put_0 : decode cX9_put 0 = .ok (.bipush 24, 2) := by decide +kernel
theorem dX9_put_2 : decode cX9_put 2 = .ok (.istore_n 2, 1) := by decide +kernel
theorem dX9_put_3 : decode cX9_put 3 = .ok (.iload_n 2, 1) := by decide +kernel
theorem dX9_put_4 : decode cX9_put 4 = .ok (.ifCond .lt 42, 3) := by decide +kernel
theorem dX9_put_7 : decode cX9_put 7 = .ok (.aload_n 0, 1) := by decide +kernel
theorem dX9_put_8 : decode cX9_put 8 = .ok (.getfield 15, 3) := by decide +kernel
theorem dX9_put_11 : decode cX9_put 11 = .ok (.sipush 900, 3) := by decide +kernel
theorem dX9_put_14 : decode cX9_put 14 = .ok (.if_icmp .ge 32, 3) := by decide +kernel
theorem dX9_put_17 : decode cX9_put 17 = .ok (.aload_n 0, 1) := by decide +kernel
theorem dX9_put_18 : decode cX9_put 18 = .ok (.getfield 9, 3) := by decide +kernel
theorem dX9_put_21 : decode cX9_put 21 = .ok (.aload_n 0, 1) := by decide +kernel
theorem dX9_put_22 : decode cX9_put 22 = .ok (.getfield 15, 3) := by decide +kernel
theorem dX9_put_25 : decode cX9_put 25 = .ok (.iload_n 1, 1) := by decide +kernel
theorem dX9_put_26 : decode cX9_put 26 = .ok (.iload_n 2, 1) := by decide +kernel
theorem dX9_put_27 : decode cX9_put 27 = .ok (.ishr, 1) := by decide +kernel
theorem dX9_put_28 : decode cX9_put 28 = .ok (.i2b, 1) := by decide +kernel
theorem dX9_put_29 : decode cX9_put 29 = .ok (.bastore, 1) := by decide +kernel
theorem dX9_put_30 : decode cX9_put 30 = .ok (.aload_n 0, 1) := by decide +kernel
theorem dX9_put_31 : decode cX9_put 31 = .ok (.dup, 1) := by decide +kernel
theorem dX9_put_32 : decode cX9_put 32 = .ok (.getfield 15, 3) := by decide +kernel
theorem dX9_put_35 : decode cX9_put 35 = .ok (.iconst 1, 1) := by decide +kernel
theorem dX9_put_36 : decode cX9_put 36 = .ok (.iadd, 1) := by decide +kernel
theorem dX9_put_37 : decode cX9_put 37 = .ok (.putfield 15, 3) := by decide +kernel
theorem dX9_put_40 : decode cX9_put 40 = .ok (.iinc 2 (-8), 3) := by decide +kernel
theorem dX9_put_43 : decode cX9_put 43 = .ok (.goto (-40), 3) := by decide +kernel
theorem dX9_put_46 : decode cX9_put 46 = .ok (.return_, 1) := by decide +kernel
theorem dX9_rewind_0 : decode cX9_rewind 0 = .ok (.aload_n 0, 1) := by decide +kernel
theorem dX9_rewind_1 : decode cX9_rewind 1 = .ok (.iconst 0, 1) := by decide +kernel
theorem dX9_rewind_2 : decode cX9_rewind 2 = .ok (.putfield 19, 3) := by decide +kernel
theorem dX9_rewind_5 : decode cX9_rewind 5 = .ok (.aload_n 0, 1) := by decide +kernel
theorem dX9_rewind_6 : decode cX9_rewind 6 = .ok (.invokevirtual 22, 3) := by decide +kernel
theorem dX9_rewind_9 : decode cX9_rewind 9 = .ok (.return_, 1) := by decide +kernel
def sp_write (x : Int32) : Int32 := if 0 ≤ x.toInt ∧ x.toInt ≤ 3 then -6 else -2
def sp_paste (x y : Int32) : Int32 := if (0 ≤ x.toInt ∧ x.toInt ≤ 3) ∧ (0 ≤ y.toInt ∧ y.toInt ≤ 3) then -6 else -2
def sp_row (x w n : Int32) : Int32 := if (0 ≤ x.toInt ∧ x.toInt ≤ 3) ∧ (0 ≤ w.toInt ∧ w.toInt ≤ 3) ∧ n.toInt ≤ 60 then (if n.toInt < 0 then -3 else 0) else -2
def sp_image (x : Int32) : Int32 := if 0 ≤ x.toInt ∧ x.toInt ≤ 2 then 0 else -2
def sp_back (x : Int32) : Int32 := if 0 ≤ x.toInt ∧ x.toInt ≤ 2 then -6 else -2
def sp_count (x : Int32) : Int32 := if 0 ≤ x.toInt ∧ x.toInt ≤ 12 then 0 else -1
def sp_end (x : Int32) : Int32 := if x.toInt = 0 then 0 else -1
def sp_fault (x : Int32) : Int32 := if x.toInt = 0 then 0 else -1
