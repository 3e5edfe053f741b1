theorem b_195 : Cond.fieldLink RX2 18 "GentleLetters$Letters" "sums" "[I" ∈ BIG := bi (tin_2 _ (List.mem_of_getElem? (i := 120) rfl)) rfl
theorem b_196 : Cond.methodLink RX2 33 yJ7_fill_53178 ∈ BIG := bi (tin_5 _ (List.mem_of_getElem? (i := 174) rfl)) rfl
theorem b_197 : Cond.fieldLinkNest RX2 53 "GentleLetters$Desk" "news" "I" RX11 ∈ nests := ne (tin_1 _ (List.mem_of_getElem? (i := 134) rfl)) rfl
theorem b_198 : Cond.methodLink RX2 63 yJ9_max_7cf53 ∈ BIG := bi (tin_5 _ (List.mem_of_getElem? (i := 180) rfl)) rfl
theorem b_199 : Cond.fieldLinkNest RX2 21 "GentleLetters$Desk" "days" "I" RX11 ∈ nests := ne (tin_1 _ (List.mem_of_getElem? (i := 103) rfl)) rfl
theorem b_200 : Cond.methodLinkNest RX2 66 yX0_leftOf RX11 ∈ nests := ne (tin_5 _ (List.mem_of_getElem? (i := 181) rfl)) rfl
theorem b_201 : Cond.fieldLink RX2 9 "GentleLetters$Letters" "sharedDays" "[I" ∈ BIG := bi (tin_2 _ (List.mem_of_getElem? (i := 117) rfl)) rfl
theorem b_202 : Cond.fieldLinkNest RX2 60 "GentleLetters$Desk" "tidings" "[I" RX11 ∈ nests := ne (tin_1 _ (List.mem_of_getElem? (i := 160) rfl)) rfl
theorem b_203 : Cond.methodLink RX2 27 yJ9_min_7cf53 ∈ BIG := bi (tin_5 _ (List.mem_of_getElem? (i := 173) rfl)) rfl
theorem b_204 : Cond.constant RX2 39 (1000000000) ∈ BIG := bi (tin_5 _ (List.mem_of_getElem? (i := 175) rfl)) rfl
theorem b_205 : Cond.fieldLink RX2 40 "GentleLetters$Letters" "least" "I" ∈ BIG := bi (tin_2 _ (List.mem_of_getElem? (i := 121) rfl)) rfl
theorem b_206 : Cond.methodLink RX2 43 yX2_leftByRow ∈ BIG := bi (tin_5 _ (List.mem_of_getElem? (i := 176) rfl)) rfl
theorem b_207 : Cond.methodLink RX2 56 yX2_nextRow ∈ BIG := bi (tin_5 _ (List.mem_of_getElem? (i := 183) rfl)) rfl
theorem b_208 : Cond.fieldLink RX2 15 "GentleLetters$Letters" "bestDays" "[I" ∈ BIG := bi (tin_2 _ (List.mem_of_getElem? (i := 118) rfl)) rfl
theorem b_209 : Cond.methodLink RX2 47 arraycopyName ∈ BIG := bi (tin_5 _ (List.mem_of_getElem? (i := 182) rfl)) rfl
theorem b_210 : Cond.methodLinkNest RX10 47 yX0_everything RX11 ∈ nests := ne (tin_4 _ (List.mem_of_getElem? (i := 44) rfl)) rfl
theorem b_211 : Cond.fieldLink RX10 27 "GentleLetters$Week" "size" "I" ∈ BIG := bi (tin_2 _ (List.mem_of_getElem? (i := 3) rfl)) rfl
theorem b_212 : Cond.fieldLink RX10 9 "GentleLetters$Week" "words" "[I" ∈ BIG := bi (tin_1 _ (List.mem_of_getElem? (i := 237) rfl)) rfl
theorem b_213 : Cond.methodLinkNest RX10 51 yX0_nextBelief RX11 ∈ nests := ne (tin_4 _ (List.mem_of_getElem? (i := 45) rfl)) rfl
theorem b_214 : Cond.fieldLink RX10 15 "GentleLetters$Week" "beliefs" "[I" ∈ BIG := bi (tin_1 _ (List.mem_of_getElem? (i := 238) rfl)) rfl
theorem b_215 : Cond.methodLink RX10 55 yJ9_max_7cf53 ∈ BIG := bi (tin_4 _ (List.mem_of_getElem? (i := 75) rfl)) rfl
theorem b_216 : Cond.fieldLink RX10 18 "GentleLetters$Week" "pains" "[I" ∈ BIG := bi (tin_1 _ (List.mem_of_getElem? (i := 239) rfl)) rfl
theorem b_217 : Cond.methodLinkNest RX10 64 yX0_hurtBetween RX11 ∈ nests := ne (tin_4 _ (List.mem_of_getElem? (i := 62) rfl)) rfl
theorem b_218 : Cond.fieldLinkNest RX10 34 "GentleLetters$Desk" "days" "I" RX11 ∈ nests := ne (tin_1 _ (List.mem_of_getElem? (i := 104) rfl)) rfl
theorem b_219 : Cond.methodLinkNest RX10 68 yX0_leftOf RX11 ∈ nests := ne (tin_4 _ (List.mem_of_getElem? (i := 86) rfl)) rfl
theorem b_220 : Cond.methodLinkNest RX10 71 yX0_isTrue RX11 ∈ nests := ne (tin_4 _ (List.mem_of_getElem? (i := 99) rfl)) rfl
theorem b_221 : Cond.methodLinkNest RX10 75 yX0_shameOf RX11 ∈ nests := ne (tin_4 _ (List.mem_of_getElem? (i := 108) rfl)) rfl
theorem b_222 : Cond.fieldLinkNest RX10 79 "GentleLetters$Desk" "meanings" "[I" RX11 ∈ nests := ne (tin_1 _ (List.mem_of_getElem? (i := 154) rfl)) rfl
theorem b_223 : Cond.methodLink RX10 60 yX10_lastBelief ∈ BIG := bi (tin_6 _ (List.mem_of_getElem? (i := 47) rfl)) rfl
theorem b_224 : Cond.fieldLink RX10 21 "GentleLetters$Week" "order" "[I" ∈ BIG := bi (tin_2 _ (List.mem_of_getElem? (i := 0) rfl)) rfl
theorem b_225 : Cond.methodLink RX10 128 yX10_swap ∈ BIG := bi (tin_4 _ (List.mem_of_getElem? (i := 158) rfl)) rfl
theorem b_226 : Cond.methodLinkNest RX10 123 yX4_pain RX11 ∈ nests := ne (tin_4 _ (List.mem_of_getElem? (i := 148) rfl)) rfl
theorem b_227 : Cond.constant RX10 105 (1000000000) ∈ BIG := bi (tin_4 _ (List.mem_of_getElem? (i := 143) rfl)) rfl
theorem b_228 : Cond.fieldLink RX10 106 "GentleLetters$Week" "leastOrdered" "I" ∈ BIG := bi (tin_2 _ (List.mem_of_getElem? (i := 5) rfl)) rfl
theorem b_229 : Cond.methodLink RX10 109 yX10_leftByOrder ∈ BIG := bi (tin_4 _ (List.mem_of_getElem? (i := 144) rfl)) rfl
theorem b_230 : Cond.methodLink RX10 119 yX10_nextOrder ∈ BIG := bi (tin_4 _ (List.mem_of_getElem? (i := 154) rfl)) rfl
theorem b_231 : Cond.fieldLink RX10 24 "GentleLetters$Week" "bestOrder" "[I" ∈ BIG := bi (tin_2 _ (List.mem_of_getElem? (i := 1) rfl)) rfl
theorem b_232 : Cond.methodLink RX10 113 arraycopyName ∈ BIG := bi (tin_4 _ (List.mem_of_getElem? (i := 153) rfl)) rfl
theorem b_233 : Cond.code yX2_leftByRow cX2_leftByRow 6 (some .int) ∈ BIG := bi (tin_5 _ (List.mem_of_getElem? (i := 179) rfl)) rfl
theorem b_234 : Cond.instanceMethod yX2_leftByRow ∈ BIG := bi (tin_5 _ (List.mem_of_getElem? (i := 178) rfl)) rfl
theorem b_235 : Cond.selects RX2 yX2_leftByRow yX2_leftByRow ∈ BIG := bi (sin_6 _ (List.mem_map.mpr ⟨(yX2_leftByRow, 4), List.mem_of_getElem? (i := 5) rfl, rfl⟩)) rfl
theorem b_236 : Cond.initialized RX2 ∈ BIG := bi (tin_1 _ (List.mem_of_getElem? (i := 11) rfl)) rfl
theorem b_237 : Cond.code yX2_nextRow cX2_nextRow 4 (some .boolean) ∈ BIG := bi (tin_5 _ (List.mem_of_getElem? (i := 186) rfl)) rfl
theorem b_238 : Cond.instanceMethod yX2_nextRow ∈ BIG := bi (tin_5 _ (List.mem_of_getElem? (i := 185) rfl)) rfl
theorem b_239 : Cond.selects RX2 yX2_nextRow yX2_nextRow ∈ BIG := bi (sin_6 _ (List.mem_map.mpr ⟨(yX2_nextRow, 4), List.mem_of_getElem? (i := 6) rfl, rfl⟩)) rfl
theorem b_240 : Cond.code yX10_lastBelief cX10_lastBelief 2 (some .int) ∈ BIG := bi (tin_4 _ (List.mem_of_getElem? (i := 49) rfl)) rfl
theorem b_241 : Cond.instanceMethod yX10_lastBelief ∈ BIG := bi (tin_4 _ (List.mem_of_getElem? (i := 48) rfl)) rfl
theorem b_242 : Cond.selects RX10 yX10_lastBelief yX10_lastBelief ∈ BIG := bi (sin_3 _ (List.mem_map.mpr ⟨(yX10_lastBelief, 10), List.mem_of_getElem? (i := 10) rfl, rfl⟩)) rfl
theorem b_243 : Cond.initialized RX10 ∈ BIG := bi (tin_1 _ (List.mem_of_getElem? (i := 6) rfl)) rfl
theorem b_244 : Cond.code yX10_leftByOrder cX10_leftByOrder 7 (some .int) ∈ BIG := bi (tin_4 _ (List.mem_of_getElem? (i := 147) rfl)) rfl
theorem b_245 : Cond.instanceMethod yX10_leftByOrder ∈ BIG := bi (tin_4 _ (List.mem_of_getElem? (i := 146) rfl)) rfl
theorem b_246 : Cond.selects RX10 yX10_leftByOrder yX10_leftByOrder ∈ BIG := bi (sin_4 _ (List.mem_map.mpr ⟨(yX10_leftByOrder, 10), List.mem_of_getElem? (i := 9) rfl, rfl⟩)) rfl
theorem b_247 : Cond.code yX10_nextOrder cX10_nextOrder 5 (some .boolean) ∈ BIG := bi (tin_4 _ (List.mem_of_getElem? (i := 157) rfl)) rfl
theorem b_248 : Cond.instanceMethod yX10_nextOrder ∈ BIG := bi (tin_4 _ (List.mem_of_getElem? (i := 156) rfl)) rfl
theorem b_249 : Cond.selects RX10 yX10_nextOrder yX10_nextOrder ∈ BIG := bi (sin_4 _ (List.mem_map.mpr ⟨(yX10_nextOrder, 10), List.mem_of_getElem? (i := 11) rfl, rfl⟩)) rfl
theorem b_250 : Cond.code yX10_swap cX10_swap 4 none ∈ BIG := bi (tin_4 _ (List.mem_of_getElem? (i := 161) rfl)) rfl
theorem b_251 : Cond.instanceMethod yX10_swap ∈ BIG := bi (tin_4 _ (List.mem_of_getElem? (i := 160) rfl)) rfl
theorem b_252 : Cond.selects RX10 yX10_swap yX10_swap ∈ BIG := bi (sin_4 _ (List.mem_map.mpr ⟨(yX10_swap, 10), List.mem_of_getElem? (i := 12) rfl, rfl⟩)) rfl
theorem b_253 : Cond.laysFinal RX2 RX2 "sharedDays" "[I" ∈ BIG := bi (tin_2 _ (List.mem_of_getElem? (i := 123) rfl)) rfl
theorem b_254 : Cond.laysFinal RX2 RX2 "bestDays" "[I" ∈ BIG := bi (tin_2 _ (List.mem_of_getElem? (i := 125) rfl)) rfl
theorem b_255 : Cond.laysFinal RX2 RX2 "sums" "[I" ∈ BIG := bi (tin_2 _ (List.mem_of_getElem? (i := 127) rfl)) rfl
theorem b_256 : Cond.lays RX2 RX2 "least" "I" ∈ BIG := bi (tin_2 _ (List.mem_of_getElem? (i := 129) rfl)) rfl
theorem b_257 : Cond.laysFinal RX10 RX10 "words" "[I" ∈ BIG := bi (tin_2 _ (List.mem_of_getElem? (i := 13) rfl)) rfl
theorem b_258 : Cond.laysFinal RX10 RX10 "beliefs" "[I" ∈ BIG := bi (tin_2 _ (List.mem_of_getElem? (i := 15) rfl)) rfl
theorem b_259 : Cond.laysFinal RX10 RX10 "pains" "[I" ∈ BIG := bi (tin_2 _ (List.mem_of_getElem? (i := 17) rfl)) rfl
theorem b_260 : Cond.laysFinal RX10 RX10 "order" "[I" ∈ BIG := bi (tin_2 _ (List.mem_of_getElem? (i := 19) rfl)) rfl
theorem b_261 : Cond.laysFinal RX10 RX10 "bestOrder" "[I" ∈ BIG := bi (tin_2 _ (List.mem_of_getElem? (i := 21) rfl)) rfl
theorem b_262 : Cond.lays RX10 RX10 "size" "I" ∈ BIG := bi (tin_2 _ (List.mem_of_getElem? (i := 23) rfl)) rfl
theorem b_263 : Cond.lays RX10 RX10 "leastOrdered" "I" ∈ BIG := bi (tin_2 _ (List.mem_of_getElem? (i := 25) rfl)) rfl
theorem b_264 : Cond.lays RX10 RX10 "fitting" "I" ∈ BIG := bi (tin_2 _ (List.mem_of_getElem? (i := 27) rfl)) rfl
theorem b_265 : Cond.lays RX10 RX10 "knowingDay" "I" ∈ BIG := bi (tin_2 _ (List.mem_of_getElem? (i := 29) rfl)) rfl
theorem b_266 : Cond.lays RX10 RX10 "knowingPlan" "I" ∈ BIG := bi (tin_2 _ (List.mem_of_getElem? (i := 31) rfl)) rfl
theorem m_yX2_leftByRow : MV yX2_leftByRow cX2_leftByRow 6 (some .int) 2 := ⟨b_233, b_234, b_235, b_236, by decide +kernel⟩
theorem m_yX2_nextRow : MV yX2_nextRow cX2_nextRow 4 (some .boolean) 2 := ⟨b_237, b_238, b_239, b_236, by decide +kernel⟩
theorem m_yX10_lastBelief : MV yX10_lastBelief cX10_lastBelief 2 (some .int) 1 := ⟨b_240, b_241, b_242, b_243, by decide +kernel⟩
theorem m_yX10_leftByOrder : MV yX10_leftByOrder cX10_leftByOrder 7 (some .int) 2 := ⟨b_244, b_245, b_246, b_243, by decide +kernel⟩
theorem m_yX10_nextOrder : MV yX10_nextOrder cX10_nextOrder 5 (some .boolean) 0 := ⟨b_247, b_248, b_249, b_243, by decide +kernel⟩
theorem m_yX10_swap : MV yX10_swap cX10_swap 4 none 2 := ⟨b_250, b_251, b_252, b_243, by decide +kernel⟩
theorem i_X2 : ∀ w ∈ u_ws RX2 TX2 4, w ∈ BIG := fun w hw => by
  obtain ⟨k, hk, rfl⟩ := List.mem_map.mp hw
  have hk := List.mem_range.mp hk
  match k, hk with
  | 0, _ => exact b_253
  | 1, _ => exact b_254
  | 2, _ => exact b_255
  | 3, _ => exact b_256
  | k + 4, hk => exact absurd hk (by omega)
theorem i_X10 : ∀ w ∈ u_ws RX10 TX10 10, w ∈ BIG := fun w hw => by
  obtain ⟨k, hk, rfl⟩ := List.mem_map.mp hw
  have hk := List.mem_range.mp hk
  match k, hk with
  | 0, _ => exact b_257
  | 1, _ => exact b_258
  | 2, _ => exact b_259
  | 3, _ => exact b_260
  | 4, _ => exact b_261
  | 5, _ => exact b_262
  | 6, _ => exact b_263
  | 7, _ => exact b_264
  | 8, _ => exact b_265
  | 9, _ => exact b_266
  | k + 10, hk => exact absurd hk (by omega)
theorem dX10_believe_0 : decode cX10_believe 0 = .ok (.aload_n 1, 1) := by decide +kernel
theorem dX10_believe_1 : decode cX10_believe 1 = .ok (.invokevirtual 47, 3) := by decide +kernel
theorem dX10_believe_4 : decode cX10_believe 4 = .ok (.istore_n 2, 1) := by decide +kernel
theorem dX10_believe_5 : decode cX10_believe 5 = .ok (.iconst 0, 1) := by decide +kernel
theorem dX10_believe_6 : decode cX10_believe 6 = .ok (.istore_n 3, 1) := by decide +kernel
theorem dX10_believe_7 : decode cX10_believe 7 = .ok (.iload_n 3, 1) := by decide +kernel
theorem dX10_believe_8 : decode cX10_believe 8 = .ok (.aload_n 0, 1) := by decide +kernel
theorem dX10_believe_9 : decode cX10_believe 9 = .ok (.getfield 27, 3) := by decide +kernel
theorem dX10_believe_12 : decode cX10_believe 12 = .ok (.if_icmp .ge 28, 3) := by decide +kernel
theorem dX10_believe_15 : decode cX10_believe 15 = .ok (.aload_n 1, 1) := by decide +kernel
theorem dX10_believe_16 : decode cX10_believe 16 = .ok (.iload_n 2, 1) := by decide +kernel
theorem dX10_believe_17 : decode cX10_believe 17 = .ok (.aload_n 0, 1) := by decide +kernel
theorem dX10_believe_18 : decode cX10_believe 18 = .ok (.getfield 9, 3) := by decide +kernel
theorem dX10_believe_21 : decode cX10_believe 21 = .ok (.iload_n 3, 1) := by decide +kernel
theorem dX10_believe_22 : decode cX10_believe 22 = .ok (.iaload, 1) := by decide +kernel
theorem dX10_believe_23 : decode cX10_believe 23 = .ok (.invokevirtual 51, 3) := by decide +kernel
theorem dX10_believe_26 : decode cX10_believe 26 = .ok (.istore_n 2, 1) := by decide +kernel
theorem dX10_believe_27 : decode cX10_believe 27 = .ok (.aload_n 0, 1) := by decide +kernel
theorem dX10_believe_28 : decode cX10_believe 28 = .ok (.getfield 15, 3) := by decide +kernel
theorem dX10_believe_31 : decode cX10_believe 31 = .ok (.iload_n 3, 1) := by decide +kernel
theorem dX10_believe_32 : decode cX10_believe 32 = .ok (.iload_n 2, 1) := by decide +kernel
theorem dX10_believe_33 : decode cX10_believe 33 = .ok (.iastore, 1) := by decide +kernel
theorem dX10_believe_34 : decode cX10_believe 34 = .ok (.iinc 3 1, 3) := by decide +kernel
theorem dX10_believe_37 : decode cX10_believe 37 = .ok (.goto (-30), 3) := by decide +kernel
theorem dX10_believe_40 : decode cX10_believe 40 = .ok (.return_, 1) := by decide +kernel
theorem dX10_feel_0 : decode cX10_feel 0 = .ok (.aload_n 1, 1) := by decide +kernel
theorem dX10_feel_1 : decode cX10_feel 1 = .ok (.invokevirtual 47, 3) := by decide +kernel
theorem dX10_feel_4 : decode cX10_feel 4 = .ok (.istore_n 3, 1) := by decide +kernel
theorem dX10_feel_5 : decode cX10_feel 5 = .ok (.iconst 0, 1) := by decide +kernel
theorem dX10_feel_6 : decode cX10_feel 6 = .ok (.istore 4, 2) := by decide +kernel
theorem dX10_feel_8 : decode cX10_feel 8 = .ok (.iload 4, 2) := by decide +kernel
theorem dX10_feel_10 : decode cX10_feel 10 = .ok (.aload_n 0, 1) := by decide +kernel
theorem dX10_feel_11 : decode cX10_feel 11 = .ok (.getfield 27, 3) := by decide +kernel
theorem dX10_feel_14 : decode cX10_feel 14 = .ok (.if_icmp .ge 37, 3) := by decide +kernel
theorem dX10_feel_17 : decode cX10_feel 17 = .ok (.aload_n 0, 1) := by decide +kernel
theorem dX10_feel_18 : decode cX10_feel 18 = .ok (.getfield 18, 3) := by decide +kernel
theorem dX10_feel_21 : decode cX10_feel 21 = .ok (.iload 4, 2) := by decide +kernel
theorem dX10_feel_23 : decode cX10_feel 23 = .ok (.aload_n 1, 1) := by decide +kernel
theorem dX10_feel_24 : decode cX10_feel 24 = .ok (.iload_n 2, 1) := by decide +kernel
theorem dX10_feel_25 : decode cX10_feel 25 = .ok (.iload_n 3, 1) := by decide +kernel
theorem dX10_feel_26 : decode cX10_feel 26 = .ok (.aload_n 0, 1) := by decide +kernel
theorem dX10_feel_27 : decode cX10_feel 27 = .ok (.getfield 15, 3) := by decide +kernel
theorem dX10_feel_30 : decode cX10_feel 30 = .ok (.iload 4, 2) := by decide +kernel
theorem dX10_feel_32 : decode cX10_feel 32 = .ok (.iaload, 1) := by decide +kernel
theorem dX10_feel_33 : decode cX10_feel 33 = .ok (.invokevirtual 64, 3) := by decide +kernel
theorem dX10_feel_36 : decode cX10_feel 36 = .ok (.iastore, 1) := by decide +kernel
theorem dX10_feel_37 : decode cX10_feel 37 = .ok (.aload_n 0, 1) := by decide +kernel
theorem dX10_feel_38 : decode cX10_feel 38 = .ok (.getfield 15, 3) := by decide +kernel
theorem dX10_feel_41 : decode cX10_feel 41 = .ok (.iload 4, 2) := by decide +kernel
theorem dX10_feel_43 : decode cX10_feel 43 = .ok (.iaload, 1) := by decide +kernel
theorem dX10_feel_44 : decode cX10_feel 44 = .ok (.istore_n 3, 1) := by decide +kernel
theorem dX10_feel_45 : decode cX10_feel 45 = .ok (.iinc 4 1, 3) := by decide +kernel
theorem dX10_feel_48 : decode cX10_feel 48 = .ok (.goto (-40), 3) := by decide +kernel
theorem dX10_feel_51 : decode cX10_feel 51 = .ok (.return_, 1) := by decide +kernel
theorem dX10_fillDays_0 : decode cX10_fillDays 0 = .ok (.aload_n 0, 1) := by decide +kernel
theorem dX10_fillDays_1 : decode cX10_fillDays 1 = .ok (.aload_n 1, 1) := by decide +kernel
theorem dX10_fillDays_2 : decode cX10_fillDays 2 = .ok (.invokevirtual 60, 3) := by decide +kernel
theorem dX10_fillDays_5 : decode cX10_fillDays 5 = .ok (.istore_n 2, 1) := by decide +kernel
theorem dX10_fillDays_6 : decode cX10_fillDays 6 = .ok (.aload_n 0, 1) := by decide +kernel
theorem dX10_fillDays_7 : decode cX10_fillDays 7 = .ok (.getfield 27, 3) := by decide +kernel
theorem dX10_fillDays_10 : decode cX10_fillDays 10 = .ok (.istore_n 3, 1) := by decide +kernel
theorem dX10_fillDays_11 : decode cX10_fillDays 11 = .ok (.iload_n 3, 1) := by decide +kernel
theorem dX10_fillDays_12 : decode cX10_fillDays 12 = .ok (.aload_n 1, 1) := by decide +kernel
theorem dX10_fillDays_13 : decode cX10_fillDays 13 = .ok (.getfield 34, 3) := by decide +kernel
theorem dX10_fillDays_16 : decode cX10_fillDays 16 = .ok (.if_icmp .ge 24, 3) := by decide +kernel
theorem dX10_fillDays_19 : decode cX10_fillDays 19 = .ok (.aload_n 0, 1) := by decide +kernel
theorem dX10_fillDays_20 : decode cX10_fillDays 20 = .ok (.getfield 9, 3) := by decide +kernel
theorem dX10_fillDays_23 : decode cX10_fillDays 23 = .ok (.iload_n 3, 1) := by decide +kernel
theorem dX10_fillDays_24 : decode cX10_fillDays 24 = .ok (.bipush 8, 2) := by decide +kernel
theorem dX10_fillDays_26 : decode cX10_fillDays 26 = .ok (.iastore, 1) := by decide +kernel
theorem dX10_fillDays_27 : decode cX10_fillDays 27 = .ok (.aload_n 0, 1) := by decide +kernel
theorem dX10_fillDays_28 : decode cX10_fillDays 28 = .ok (.getfield 15, 3) := by decide +kernel
theorem dX10_fillDays_31 : decode cX10_fillDays 31 = .ok (.iload_n 3, 1) := by decide +kernel
theorem dX10_fillDays_32 : decode cX10_fillDays 32 = .ok (.iload_n 2, 1) := by decide +kernel
theorem dX10_fillDays_33 : decode cX10_fillDays 33 = .ok (.iastore, 1) := by decide +kernel
theorem dX10_fillDays_34 : decode cX10_fillDays 34 = .ok (.iinc 3 1, 3) := by decide +kernel
theorem dX10_fillDays_37 : decode cX10_fillDays 37 = .ok (.goto (-26), 3) := by decide +kernel
theorem dX10_fillDays_40 : decode cX10_fillDays 40 = .ok (.aload_n 0, 1) := by decide +kernel
theorem dX10_fillDays_41 : decode cX10_fillDays 41 = .ok (.aload_n 1, 1) := by decide +kernel
theorem dX10_fillDays_42 : decode cX10_fillDays 42 = .ok (.getfield 34, 3) := by decide +kernel
theorem dX10_fillDays_45 : decode cX10_fillDays 45 = .ok (.putfield 27, 3) := by decide +kernel
theorem dX10_fillDays_48 : decode cX10_fillDays 48 = .ok (.return_, 1) := by decide +kernel
theorem dX10_firstLie_0 : decode cX10_firstLie 0 = .ok (.iconst 0, 1) := by decide +kernel
theorem dX10_firstLie_1 : decode cX10_firstLie 1 = .ok (.istore_n 2, 1) := by decide +kernel
theorem dX10_firstLie_2 : decode cX10_firstLie 2 = .ok (.iload_n 2, 1) := by decide +kernel
theorem dX10_firstLie_3 : decode cX10_firstLie 3 = .ok (.aload_n 0, 1) := by decide +kernel
theorem dX10_firstLie_4 : decode cX10_firstLie 4 = .ok (.getfield 27, 3) := by decide +kernel
theorem dX10_firstLie_7 : decode cX10_firstLie 7 = .ok (.if_icmp .ge 35, 3) := by decide +kernel
theorem dX10_firstLie_10 : decode cX10_firstLie 10 = .ok (.aload_n 0, 1) := by decide +kernel
theorem dX10_firstLie_11 : decode cX10_firstLie 11 = .ok (.getfield 9, 3) := by decide +kernel
theorem dX10_firstLie_14 : decode cX10_firstLie 14 = .ok (.iload_n 2, 1) := by decide +kernel
theorem dX10_firstLie_15 : decode cX10_firstLie 15 = .ok (.iaload, 1) := by decide +kernel
theorem dX10_firstLie_16 : decode cX10_firstLie 16 = .ok (.bipush 8, 2) := by decide +kernel
theorem dX10_firstLie_18 : decode cX10_firstLie 18 = .ok (.if_icmp .eq 18, 3) := by decide +kernel
theorem dX10_firstLie_21 : decode cX10_firstLie 21 = .ok (.aload_n 1, 1) := by decide +kernel
theorem dX10_firstLie_22 : decode cX10_firstLie 22 = .ok (.aload_n 0, 1) := by decide +kernel
theorem dX10_firstLie_23 : decode cX10_firstLie 23 = .ok (.getfield 9, 3) := by decide +kernel
theorem dX10_firstLie_26 : decode cX10_firstLie 26 = .ok (.iload_n 2, 1) := by decide +kernel
theorem dX10_firstLie_27 : decode cX10_firstLie 27 = .ok (.iaload, 1) := by decide +kernel
theorem dX10_firstLie_28 : decode cX10_firstLie 28 = .ok (.invokevirtual 71, 3) := by decide +kernel
theorem dX10_firstLie_31 : decode cX10_firstLie 31 = .ok (.ifCond .ne 5, 3) := by decide +kernel
theorem dX10_firstLie_34 : decode cX10_firstLie 34 = .ok (.iload_n 2, 1) := by decide +kernel
theorem dX10_firstLie_35 : decode cX10_firstLie 35 = .ok (.ireturn, 1) := by decide +kernel
theorem dX10_firstLie_36 : decode cX10_firstLie 36 = .ok (.iinc 2 1, 3) := by decide +kernel
theorem dX10_firstLie_39 : decode cX10_firstLie 39 = .ok (.goto (-37), 3) := by decide +kernel
theorem dX10_firstLie_42 : decode cX10_firstLie 42 = .ok (.iconst (-1), 1) := by decide +kernel
theorem dX10_firstLie_43 : decode cX10_firstLie 43 = .ok (.ireturn, 1) := by decide +kernel
theorem dX10_greatestHurt_0 : decode cX10_greatestHurt 0 = .ok (.iconst 0, 1) := by decide +kernel
theorem dX10_greatestHurt_1 : decode cX10_greatestHurt 1 = .ok (.istore_n 1, 1) := by decide +kernel
theorem dX10_greatestHurt_2 : decode cX10_greatestHurt 2 = .ok (.iconst 0, 1) := by decide +kernel
theorem dX10_greatestHurt_3 : decode cX10_greatestHurt 3 = .ok (.istore_n 2, 1) := by decide +kernel
theorem dX10_greatestHurt_4 : decode cX10_greatestHurt 4 = .ok (.iload_n 2, 1) := by decide +kernel
theorem dX10_greatestHurt_5 : decode cX10_greatestHurt 5 = .ok (.aload_n 0, 1) := by decide +kernel
theorem dX10_greatestHurt_6 : decode cX10_greatestHurt 6 = .ok (.getfield 27, 3) := by decide +kernel
theorem dX10_greatestHurt_9 : decode cX10_greatestHurt 9 = .ok (.if_icmp .ge 20, 3) := by decide +kernel
theorem dX10_greatestHurt_12 : decode cX10_greatestHurt 12 = .ok (.iload_n 1, 1) := by decide +kernel
theorem dX10_greatestHurt_13 : decode cX10_greatestHurt 13 = .ok (.aload_n 0, 1) := by decide +kernel
theorem dX10_greatestHurt_14 : decode cX10_greatestHurt 14 = .ok (.getfield 18, 3) := by decide +kernel
theorem dX10_greatestHurt_17 : decode cX10_greatestHurt 17 = .ok (.iload_n 2, 1) := by decide +kernel
theorem dX10_greatestHurt_18 : decode cX10_greatestHurt 18 = .ok (.iaload, 1) := by decide +kernel
theorem dX10_greatestHurt_19 : decode cX10_greatestHurt 19 = .ok (.invokestatic 55, 3) := by decide +kernel
theorem dX10_greatestHurt_22 : decode cX10_greatestHurt 22 = .ok (.istore_n 1, 1) := by decide +kernel
theorem dX10_greatestHurt_23 : decode cX10_greatestHurt 23 = .ok (.iinc 2 1, 3) := by decide +kernel
theorem dX10_greatestHurt_26 : decode cX10_greatestHurt 26 = .ok (.goto (-22), 3) := by decide +kernel
theorem dX10_greatestHurt_29 : decode cX10_greatestHurt 29 = .ok (.iload_n 1, 1) := by decide +kernel
theorem dX10_greatestHurt_30 : decode cX10_greatestHurt 30 = .ok (.ireturn, 1) := by decide +kernel
theorem dX10_knownFrom_0 : decode cX10_knownFrom 0 = .ok (.iconst (-1), 1) := by decide +kernel
theorem dX10_knownFrom_1 : decode cX10_knownFrom 1 = .ok (.istore_n 2, 1) := by decide +kernel
theorem dX10_knownFrom_2 : decode cX10_knownFrom 2 = .ok (.aload_n 0, 1) := by decide +kernel
theorem dX10_knownFrom_3 : decode cX10_knownFrom 3 = .ok (.getfield 27, 3) := by decide +kernel
theorem dX10_knownFrom_6 : decode cX10_knownFrom 6 = .ok (.iconst 1, 1) := by decide +kernel
theorem dX10_knownFrom_7 : decode cX10_knownFrom 7 = .ok (.isub, 1) := by decide +kernel
theorem dX10_knownFrom_8 : decode cX10_knownFrom 8 = .ok (.istore_n 3, 1) := by decide +kernel
theorem dX10_knownFrom_9 : decode cX10_knownFrom 9 = .ok (.iload_n 3, 1) := by decide +kernel
theorem dX10_knownFrom_10 : decode cX10_knownFrom 10 = .ok (.ifCond .lt 21, 3) := by decide +kernel
theorem dX10_knownFrom_13 : decode cX10_knownFrom 13 = .ok (.aload_n 0, 1) := by decide +kernel
theorem dX10_knownFrom_14 : decode cX10_knownFrom 14 = .ok (.getfield 15, 3) := by decide +kernel
theorem dX10_knownFrom_17 : decode cX10_knownFrom 17 = .ok (.iload_n 3, 1) := by decide +kernel
theorem dX10_knownFrom_18 : decode cX10_knownFrom 18 = .ok (.iaload, 1) := by decide +kernel
theorem dX10_knownFrom_19 : decode cX10_knownFrom 19 = .ok (.iload_n 1, 1) := by decide +kernel
theorem dX10_knownFrom_20 : decode cX10_knownFrom 20 = .ok (.if_icmp .ne 11, 3) := by decide +kernel
theorem dX10_knownFrom_23 : decode cX10_knownFrom 23 = .ok (.iload_n 3, 1) := by decide +kernel
theorem dX10_knownFrom_24 : decode cX10_knownFrom 24 = .ok (.istore_n 2, 1) := by decide +kernel
theorem dX10_knownFrom_25 : decode cX10_knownFrom 25 = .ok (.iinc 3 (-1), 3) := by decide +kernel
theorem dX10_knownFrom_28 : decode cX10_knownFrom 28 = .ok (.goto (-19), 3) := by decide +kernel
theorem dX10_knownFrom_31 : decode cX10_knownFrom 31 = .ok (.iload_n 2, 1) := by decide +kernel
theorem dX10_knownFrom_32 : decode cX10_knownFrom 32 = .ok (.ireturn, 1) := by decide +kernel
theorem dX10_lastBelief_0 : decode cX10_lastBelief 0 = .ok (.aload_n 0, 1) := by decide +kernel
theorem dX10_lastBelief_1 : decode cX10_lastBelief 1 = .ok (.getfield 27, 3) := by decide +kernel
theorem dX10_lastBelief_4 : decode cX10_lastBelief 4 = .ok (.ifCond .le 17, 3) := by decide +kernel
theorem dX10_lastBelief_7 : decode cX10_lastBelief 7 = .ok (.aload_n 0, 1) := by decide +kernel
theorem dX10_lastBelief_8 : decode cX10_lastBelief 8 = .ok (.getfield 15, 3) := by decide +kernel
theorem dX10_lastBelief_11 : decode cX10_lastBelief 11 = .ok (.aload_n 0, 1) := by decide +kernel
theorem dX10_lastBelief_12 : decode cX10_lastBelief 12 = .ok (.getfield 27, 3) := by decide +kernel
theorem dX10_lastBelief_15 : decode cX10_lastBelief 15 = .ok (.iconst 1, 1) := by decide +kernel
theorem dX10_lastBelief_16 : decode cX10_lastBelief 16 = .ok (.isub, 1) := by decide +kernel
theorem dX10_lastBelief_17 : decode cX10_lastBelief 17 = .ok (.iaload, 1) := by decide +kernel
theorem dX10_lastBelief_18 : decode cX10_lastBelief 18 = .ok (.goto 7, 3) := by decide +kernel
theorem dX10_lastBelief_21 : decode cX10_lastBelief 21 = .ok (.aload_n 1, 1) := by decide +kernel
theorem dX10_lastBelief_22 : decode cX10_lastBelief 22 = .ok (.invokevirtual 47, 3) := by decide +kernel
theorem dX10_lastBelief_25 : decode cX10_lastBelief 25 = .ok (.ireturn, 1) := by decide +kernel
theorem dX10_leftByOrder_0 : decode cX10_leftByOrder 0 = .ok (.aload_n 1, 1) := by decide +kernel
theorem dX10_leftByOrder_1 : decode cX10_leftByOrder 1 = .ok (.invokevirtual 47, 3) := by decide +kernel
theorem dX10_leftByOrder_4 : decode cX10_leftByOrder 4 = .ok (.istore_n 3, 1) := by decide +kernel
theorem dX10_leftByOrder_5 : decode cX10_leftByOrder 5 = .ok (.iconst 0, 1) := by decide +kernel
theorem dX10_leftByOrder_6 : decode cX10_leftByOrder 6 = .ok (.istore 4, 2) := by decide +kernel
theorem dX10_leftByOrder_8 : decode cX10_leftByOrder 8 = .ok (.iconst 0, 1) := by decide +kernel
theorem dX10_leftByOrder_9 : decode cX10_leftByOrder 9 = .ok (.istore 5, 2) := by decide +kernel
theorem dX10_leftByOrder_11 : decode cX10_leftByOrder 11 = .ok (.iload 5, 2) := by decide +kernel
theorem dX10_leftByOrder_13 : decode cX10_leftByOrder 13 = .ok (.aload_n 0, 1) := by decide +kernel
theorem dX10_leftByOrder_14 : decode cX10_leftByOrder 14 = .ok (.getfield 27, 3) := by decide +kernel
theorem dX10_leftByOrder_17 : decode cX10_leftByOrder 17 = .ok (.if_icmp .ge 63, 3) := by decide +kernel
theorem dX10_leftByOrder_20 : decode cX10_leftByOrder 20 = .ok (.iload 5, 2) := by decide +kernel
theorem dX10_leftByOrder_22 : decode cX10_leftByOrder 22 = .ok (.bipush 6, 2) := by decide +kernel
theorem dX10_leftByOrder_24 : decode cX10_leftByOrder 24 = .ok (.if_icmp .ge 56, 3) := by decide +kernel
theorem dX10_leftByOrder_27 : decode cX10_leftByOrder 27 = .ok (.aload_n 1, 1) := by decide +kernel
theorem dX10_leftByOrder_28 : decode cX10_leftByOrder 28 = .ok (.iload_n 3, 1) := by decide +kernel
theorem dX10_leftByOrder_29 : decode cX10_leftByOrder 29 = .ok (.aload_n 0, 1) := by decide +kernel
theorem dX10_leftByOrder_30 : decode cX10_leftByOrder 30 = .ok (.getfield 9, 3) := by decide +kernel
theorem dX10_leftByOrder_33 : decode cX10_leftByOrder 33 = .ok (.aload_n 0, 1) := by decide +kernel
theorem dX10_leftByOrder_34 : decode cX10_leftByOrder 34 = .ok (.getfield 21, 3) := by decide +kernel
theorem dX10_leftByOrder_37 : decode cX10_leftByOrder 37 = .ok (.iload 5, 2) := by decide +kernel
theorem dX10_leftByOrder_39 : decode cX10_leftByOrder 39 = .ok (.iaload, 1) := by decide +kernel
theorem dX10_leftByOrder_40 : decode cX10_leftByOrder 40 = .ok (.iaload, 1) := by decide +kernel
theorem dX10_leftByOrder_41 : decode cX10_leftByOrder 41 = .ok (.invokevirtual 51, 3) := by decide +kernel
theorem dX10_leftByOrder_44 : decode cX10_leftByOrder 44 = .ok (.istore 6, 2) := by decide +kernel
theorem dX10_leftByOrder_46 : decode cX10_leftByOrder 46 = .ok (.iload 4, 2) := by decide +kernel
theorem dX10_leftByOrder_48 : decode cX10_leftByOrder 48 = .ok (.aload_n 1, 1) := by decide +kernel
theorem dX10_leftByOrder_49 : decode cX10_leftByOrder 49 = .ok (.aload_n 2, 1) := by decide +kernel
theorem dX10_leftByOrder_50 : decode cX10_leftByOrder 50 = .ok (.iload_n 3, 1) := by decide +kernel
theorem dX10_leftByOrder_51 : decode cX10_leftByOrder 51 = .ok (.iload 6, 2) := by decide +kernel
theorem dX10_leftByOrder_53 : decode cX10_leftByOrder 53 = .ok (.invokevirtual 123, 3) := by decide +kernel
theorem dX10_leftByOrder_56 : decode cX10_leftByOrder 56 = .ok (.aload_n 1, 1) := by decide +kernel
theorem dX10_leftByOrder_57 : decode cX10_leftByOrder 57 = .ok (.getfield 34, 3) := by decide +kernel
theorem dX10_leftByOrder_60 : decode cX10_leftByOrder 60 = .ok (.iconst 1, 1) := by decide +kernel
theorem dX10_leftByOrder_61 : decode cX10_leftByOrder 61 = .ok (.isub, 1) := by decide +kernel
theorem dX10_leftByOrder_62 : decode cX10_leftByOrder 62 = .ok (.iload 5, 2) := by decide +kernel
theorem dX10_leftByOrder_64 : decode cX10_leftByOrder 64 = .ok (.isub, 1) := by decide +kernel
theorem dX10_leftByOrder_65 : decode cX10_leftByOrder 65 = .ok (.invokevirtual 68, 3) := by decide +kernel
theorem dX10_leftByOrder_68 : decode cX10_leftByOrder 68 = .ok (.iadd, 1) := by decide +kernel
theorem dX10_leftByOrder_69 : decode cX10_leftByOrder 69 = .ok (.istore 4, 2) := by decide +kernel
theorem dX10_leftByOrder_71 : decode cX10_leftByOrder 71 = .ok (.iload 6, 2) := by decide +kernel
theorem dX10_leftByOrder_73 : decode cX10_leftByOrder 73 = .ok (.istore_n 3, 1) := by decide +kernel
theorem dX10_leftByOrder_74 : decode cX10_leftByOrder 74 = .ok (.iinc 5 1, 3) := by decide +kernel
theorem dX10_leftByOrder_77 : decode cX10_leftByOrder 77 = .ok (.goto (-66), 3) := by decide +kernel
theorem dX10_leftByOrder_80 : decode cX10_leftByOrder 80 = .ok (.iload 4, 2) := by decide +kernel
theorem dX10_leftByOrder_82 : decode cX10_leftByOrder 82 = .ok (.ireturn, 1) := by decide +kernel
theorem dX10_nextOrder_0 : decode cX10_nextOrder 0 = .ok (.aload_n 0, 1) := by decide +kernel
theorem dX10_nextOrder_1 : decode cX10_nextOrder 1 = .ok (.getfield 27, 3) := by decide +kernel
theorem dX10_nextOrder_4 : decode cX10_nextOrder 4 = .ok (.iconst 2, 1) := by decide +kernel
theorem dX10_nextOrder_5 : decode cX10_nextOrder 5 = .ok (.isub, 1) := by decide +kernel
theorem dX10_nextOrder_6 : decode cX10_nextOrder 6 = .ok (.istore_n 1, 1) := by decide +kernel
theorem dX10_nextOrder_7 : decode cX10_nextOrder 7 = .ok (.iload_n 1, 1) := by decide +kernel
theorem dX10_nextOrder_8 : decode cX10_nextOrder 8 = .ok (.ifCond .lt 26, 3) := by decide +kernel
theorem dX10_nextOrder_11 : decode cX10_nextOrder 11 = .ok (.aload_n 0, 1) := by decide +kernel
theorem dX10_nextOrder_12 : decode cX10_nextOrder 12 = .ok (.getfield 21, 3) := by decide +kernel
theorem dX10_nextOrder_15 : decode cX10_nextOrder 15 = .ok (.iload_n 1, 1) := by decide +kernel
theorem dX10_nextOrder_16 : decode cX10_nextOrder 16 = .ok (.iaload, 1) := by decide +kernel
theorem dX10_nextOrder_17 : decode cX10_nextOrder 17 = .ok (.aload_n 0, 1) := by decide +kernel
theorem dX10_nextOrder_18 : decode cX10_nextOrder 18 = .ok (.getfield 21, 3) := by decide +kernel
theorem dX10_nextOrder_21 : decode cX10_nextOrder 21 = .ok (.iload_n 1, 1) := by decide +kernel
theorem dX10_nextOrder_22 : decode cX10_nextOrder 22 = .ok (.iconst 1, 1) := by decide +kernel
theorem dX10_nextOrder_23 : decode cX10_nextOrder 23 = .ok (.iadd, 1) := by decide +kernel
theorem dX10_nextOrder_24 : decode cX10_nextOrder 24 = .ok (.iaload, 1) := by decide +kernel
theorem dX10_nextOrder_25 : decode cX10_nextOrder 25 = .ok (.if_icmp .le 9, 3) := by decide +kernel
theorem dX10_nextOrder_28 : decode cX10_nextOrder 28 = .ok (.iinc 1 (-1), 3) := by decide +kernel
theorem dX10_nextOrder_31 : decode cX10_nextOrder 31 = .ok (.goto (-24), 3) := by decide +kernel
theorem dX10_nextOrder_34 : decode cX10_nextOrder 34 = .ok (.iload_n 1, 1) := by decide +kernel
theorem dX10_nextOrder_35 : decode cX10_nextOrder 35 = .ok (.ifCond .ge 5, 3) := by decide +kernel
theorem dX10_nextOrder_38 : decode cX10_nextOrder 38 = .ok (.iconst 0, 1) := by decide +kernel
theorem dX10_nextOrder_39 : decode cX10_nextOrder 39 = .ok (.ireturn, 1) := by decide +kernel
theorem dX10_nextOrder_40 : decode cX10_nextOrder 40 = .ok (.aload_n 0, 1) := by decide +kernel
theorem dX10_nextOrder_41 : decode cX10_nextOrder 41 = .ok (.getfield 27, 3) := by decide +kernel
theorem dX10_nextOrder_44 : decode cX10_nextOrder 44 = .ok (.iconst 1, 1) := by decide +kernel
theorem dX10_nextOrder_45 : decode cX10_nextOrder 45 = .ok (.isub, 1) := by decide +kernel
theorem dX10_nextOrder_46 : decode cX10_nextOrder 46 = .ok (.istore_n 2, 1) := by decide +kernel
theorem dX10_nextOrder_47 : decode cX10_nextOrder 47 = .ok (.iload_n 2, 1) := by decide +kernel
theorem dX10_nextOrder_48 : decode cX10_nextOrder 48 = .ok (.iload_n 1, 1) := by decide +kernel
theorem dX10_nextOrder_49 : decode cX10_nextOrder 49 = .ok (.if_icmp .le 24, 3) := by decide +kernel
theorem dX10_nextOrder_52 : decode cX10_nextOrder 52 = .ok (.aload_n 0, 1) := by decide +kernel
theorem dX10_nextOrder_53 : decode cX10_nextOrder 53 = .ok (.getfield 21, 3) := by decide +kernel
theorem dX10_nextOrder_56 : decode cX10_nextOrder 56 = .ok (.iload_n 2, 1) := by decide +kernel
theorem dX10_nextOrder_57 : decode cX10_nextOrder 57 = .ok (.iaload, 1) := by decide +kernel
theorem dX10_nextOrder_58 : decode cX10_nextOrder 58 = .ok (.aload_n 0, 1) := by decide +kernel
theorem dX10_nextOrder_59 : decode cX10_nextOrder 59 = .ok (.getfield 21, 3) := by decide +kernel
theorem dX10_nextOrder_62 : decode cX10_nextOrder 62 = .ok (.iload_n 1, 1) := by decide +kernel
theorem dX10_nextOrder_63 : decode cX10_nextOrder 63 = .ok (.iaload, 1) := by decide +kernel
theorem dX10_nextOrder_64 : decode cX10_nextOrder 64 = .ok (.if_icmp .ge 9, 3) := by decide +kernel
theorem dX10_nextOrder_67 : decode cX10_nextOrder 67 = .ok (.iinc 2 (-1), 3) := by decide +kernel
theorem dX10_nextOrder_70 : decode cX10_nextOrder 70 = .ok (.goto (-23), 3) := by decide +kernel
theorem dX10_nextOrder_73 : decode cX10_nextOrder 73 = .ok (.aload_n 0, 1) := by decide +kernel
theorem dX10_nextOrder_74 : decode cX10_nextOrder 74 = .ok (.iload_n 1, 1) := by decide +kernel
theorem dX10_nextOrder_75 : decode cX10_nextOrder 75 = .ok (.iload_n 2, 1) := by decide +kernel
theorem dX10_nextOrder_76 : decode cX10_nextOrder 76 = .ok (.invokevirtual 128, 3) := by decide +kernel
theorem dX10_nextOrder_79 : decode cX10_nextOrder 79 = .ok (.iload_n 1, 1) := by decide +kernel
theorem dX10_nextOrder_80 : decode cX10_nextOrder 80 = .ok (.iconst 1, 1) := by decide +kernel
theorem dX10_nextOrder_81 : decode cX10_nextOrder 81 = .ok (.iadd, 1) := by decide +kernel
theorem dX10_nextOrder_82 : decode cX10_nextOrder 82 = .ok (.istore_n 3, 1) := by decide +kernel
theorem dX10_nextOrder_83 : decode cX10_nextOrder 83 = .ok (.aload_n 0, 1) := by decide +kernel
theorem dX10_nextOrder_84 : decode cX10_nextOrder 84 = .ok (.getfield 27, 3) := by decide +kernel
theorem dX10_nextOrder_87 : decode cX10_nextOrder 87 = .ok (.iconst 1, 1) := by decide +kernel
theorem dX10_nextOrder_88 : decode cX10_nextOrder 88 = .ok (.isub, 1) := by decide +kernel
theorem dX10_nextOrder_89 : decode cX10_nextOrder 89 = .ok (.istore 4, 2) := by decide +kernel
theorem dX10_nextOrder_91 : decode cX10_nextOrder 91 = .ok (.iload_n 3, 1) := by decide +kernel
theorem dX10_nextOrder_92 : decode cX10_nextOrder 92 = .ok (.iload 4, 2) := by decide +kernel
theorem dX10_nextOrder_94 : decode cX10_nextOrder 94 = .ok (.if_icmp .ge 19, 3) := by decide +kernel
theorem dX10_nextOrder_97 : decode cX10_nextOrder 97 = .ok (.aload_n 0, 1) := by decide +kernel
theorem dX10_nextOrder_98 : decode cX10_nextOrder 98 = .ok (.iload_n 3, 1) := by decide +kernel
theorem dX10_nextOrder_99 : decode cX10_nextOrder 99 = .ok (.iload 4, 2) := by decide +kernel
theorem dX10_nextOrder_101 : decode cX10_nextOrder 101 = .ok (.invokevirtual 128, 3) := by decide +kernel
theorem dX10_nextOrder_104 : decode cX10_nextOrder 104 = .ok (.iinc 3 1, 3) := by decide +kernel
theorem dX10_nextOrder_107 : decode cX10_nextOrder 107 = .ok (.iinc 4 (-1), 3) := by decide +kernel
theorem dX10_nextOrder_110 : decode cX10_nextOrder 110 = .ok (.goto (-19), 3) := by decide +kernel
theorem dX10_nextOrder_113 : decode cX10_nextOrder 113 = .ok (.iconst 1, 1) := by decide +kernel
theorem dX10_nextOrder_114 : decode cX10_nextOrder 114 = .ok (.ireturn, 1) := by decide +kernel
theorem dX10_orderSoftly_0 : decode cX10_orderSoftly 0 = .ok (.iconst 0, 1) := by decide +kernel
theorem dX10_orderSoftly_1 : decode cX10_orderSoftly 1 = .ok (.istore_n 3, 1) := by decide +kernel
theorem dX10_orderSoftly_2 : decode cX10_orderSoftly 2 = .ok (.iload_n 3, 1) := by decide +kernel
theorem dX10_orderSoftly_3 : decode cX10_orderSoftly 3 = .ok (.aload_n 0, 1) := by decide +kernel
theorem dX10_orderSoftly_4 : decode cX10_orderSoftly 4 = .ok (.getfield 27, 3) := by decide +kernel
theorem dX10_orderSoftly_7 : decode cX10_orderSoftly 7 = .ok (.if_icmp .ge 22, 3) := by decide +kernel
theorem dX10_orderSoftly_10 : decode cX10_orderSoftly 10 = .ok (.iload_n 3, 1) := by decide +kernel
theorem dX10_orderSoftly_11 : decode cX10_orderSoftly 11 = .ok (.bipush 6, 2) := by decide +kernel
theorem dX10_orderSoftly_13 : decode cX10_orderSoftly 13 = .ok (.if_icmp .ge 16, 3) := by decide +kernel
theorem dX10_orderSoftly_16 : decode cX10_orderSoftly 16 = .ok (.aload_n 0, 1) := by decide +kernel
theorem dX10_orderSoftly_17 : decode cX10_orderSoftly 17 = .ok (.getfield 21, 3) := by decide +kernel
theorem dX10_orderSoftly_20 : decode cX10_orderSoftly 20 = .ok (.iload_n 3, 1) := by decide +kernel
theorem dX10_orderSoftly_21 : decode cX10_orderSoftly 21 = .ok (.iload_n 3, 1) := by decide +kernel
theorem dX10_orderSoftly_22 : decode cX10_orderSoftly 22 = .ok (.iastore, 1) := by decide +kernel
theorem dX10_orderSoftly_23 : decode cX10_orderSoftly 23 = .ok (.iinc 3 1, 3) := by decide +kernel
theorem dX10_orderSoftly_26 : decode cX10_orderSoftly 26 = .ok (.goto (-24), 3) := by decide +kernel
theorem dX10_orderSoftly_29 : decode cX10_orderSoftly 29 = .ok (.aload_n 0, 1) := by decide +kernel
theorem dX10_orderSoftly_30 : decode cX10_orderSoftly 30 = .ok (.ldc 105, 2) := by decide +kernel
theorem dX10_orderSoftly_32 : decode cX10_orderSoftly 32 = .ok (.putfield 106, 3) := by decide +kernel
theorem dX10_orderSoftly_35 : decode cX10_orderSoftly 35 = .ok (.iconst 1, 1) := by decide +kernel
theorem dX10_orderSoftly_36 : decode cX10_orderSoftly 36 = .ok (.istore_n 3, 1) := by decide +kernel
theorem dX10_orderSoftly_37 : decode cX10_orderSoftly 37 = .ok (.iconst 0, 1) := by decide +kernel
theorem dX10_orderSoftly_38 : decode cX10_orderSoftly 38 = .ok (.istore 4, 2) := by decide +kernel
theorem dX10_orderSoftly_40 : decode cX10_orderSoftly 40 = .ok (.iload 4, 2) := by decide +kernel
theorem dX10_orderSoftly_42 : decode cX10_orderSoftly 42 = .ok (.sipush 720, 3) := by decide +kernel
theorem dX10_orderSoftly_45 : decode cX10_orderSoftly 45 = .ok (.if_icmp .ge 56, 3) := by decide +kernel
theorem dX10_orderSoftly_48 : decode cX10_orderSoftly 48 = .ok (.iload_n 3, 1) := by decide +kernel
theorem dX10_orderSoftly_49 : decode cX10_orderSoftly 49 = .ok (.ifCond .eq 52, 3) := by decide +kernel
theorem dX10_orderSoftly_52 : decode cX10_orderSoftly 52 = .ok (.aload_n 0, 1) := by decide +kernel
theorem dX10_orderSoftly_53 : decode cX10_orderSoftly 53 = .ok (.aload_n 1, 1) := by decide +kernel
theorem dX10_orderSoftly_54 : decode cX10_orderSoftly 54 = .ok (.aload_n 2, 1) := by decide +kernel
theorem dX10_orderSoftly_55 : decode cX10_orderSoftly 55 = .ok (.invokevirtual 109, 3) := by decide +kernel
theorem dX10_orderSoftly_58 : decode cX10_orderSoftly 58 = .ok (.istore 5, 2) := by decide +kernel
theorem dX10_orderSoftly_60 : decode cX10_orderSoftly 60 = .ok (.iload 5, 2) := by decide +kernel
theorem dX10_orderSoftly_62 : decode cX10_orderSoftly 62 = .ok (.aload_n 0, 1) := by decide +kernel
theorem dX10_orderSoftly_63 : decode cX10_orderSoftly 63 = .ok (.getfield 106, 3) := by decide +kernel
theorem dX10_orderSoftly_66 : decode cX10_orderSoftly 66 = .ok (.if_icmp .ge 24, 3) := by decide +kernel
theorem dX10_orderSoftly_69 : decode cX10_orderSoftly 69 = .ok (.aload_n 0, 1) := by decide +kernel
theorem dX10_orderSoftly_70 : decode cX10_orderSoftly 70 = .ok (.iload 5, 2) := by decide +kernel
theorem dX10_orderSoftly_72 : decode cX10_orderSoftly 72 = .ok (.putfield 106, 3) := by decide +kernel
theorem dX10_orderSoftly_75 : decode cX10_orderSoftly 75 = .ok (.aload_n 0, 1) := by decide +kernel
theorem dX10_orderSoftly_76 : decode cX10_orderSoftly 76 = .ok (.getfield 21, 3) := by decide +kernel
theorem dX10_orderSoftly_79 : decode cX10_orderSoftly 79 = .ok (.iconst 0, 1) := by decide +kernel
theorem dX10_orderSoftly_80 : decode cX10_orderSoftly 80 = .ok (.aload_n 0, 1) := by decide +kernel
theorem dX10_orderSoftly_81 : decode cX10_orderSoftly 81 = .ok (.getfield 24, 3) := by decide +kernel
theorem dX10_orderSoftly_84 : decode cX10_orderSoftly 84 = .ok (.iconst 0, 1) := by decide +kernel
theorem dX10_orderSoftly_85 : decode cX10_orderSoftly 85 = .ok (.bipush 6, 2) := by decide +kernel
theorem dX10_orderSoftly_87 : decode cX10_orderSoftly 87 = .ok (.invokestatic 113, 3) := by decide +kernel
theorem dX10_orderSoftly_90 : decode cX10_orderSoftly 90 = .ok (.aload_n 0, 1) := by decide +kernel
theorem dX10_orderSoftly_91 : decode cX10_orderSoftly 91 = .ok (.invokevirtual 119, 3) := by decide +kernel
theorem dX10_orderSoftly_94 : decode cX10_orderSoftly 94 = .ok (.istore_n 3, 1) := by decide +kernel
theorem dX10_orderSoftly_95 : decode cX10_orderSoftly 95 = .ok (.iinc 4 1, 3) := by decide +kernel
theorem dX10_orderSoftly_98 : decode cX10_orderSoftly 98 = .ok (.goto (-58), 3) := by decide +kernel
theorem dX10_orderSoftly_101 : decode cX10_orderSoftly 101 = .ok (.return_, 1) := by decide +kernel
theorem dX10_overrule_0 : decode cX10_overrule 0 = .ok (.iconst 0, 1) := by decide +kernel
theorem dX10_overrule_1 : decode cX10_overrule 1 = .ok (.iload_n 1, 1) := by decide +kernel
theorem dX10_overrule_2 : decode cX10_overrule 2 = .ok (.invokestatic 55, 3) := by decide +kernel
theorem dX10_overrule_5 : decode cX10_overrule 5 = .ok (.istore_n 3, 1) := by decide +kernel
theorem dX10_overrule_6 : decode cX10_overrule 6 = .ok (.iload_n 3, 1) := by decide +kernel
theorem dX10_overrule_7 : decode cX10_overrule 7 = .ok (.aload_n 0, 1) := by decide +kernel
theorem dX10_overrule_8 : decode cX10_overrule 8 = .ok (.getfield 27, 3) := by decide +kernel
theorem dX10_overrule_11 : decode cX10_overrule 11 = .ok (.if_icmp .ge 16, 3) := by decide +kernel
theorem dX10_overrule_14 : decode cX10_overrule 14 = .ok (.aload_n 0, 1) := by decide +kernel
theorem dX10_overrule_15 : decode cX10_overrule 15 = .ok (.getfield 15, 3) := by decide +kernel
theorem dX10_overrule_18 : decode cX10_overrule 18 = .ok (.iload_n 3, 1) := by decide +kernel
theorem dX10_overrule_19 : decode cX10_overrule 19 = .ok (.iload_n 2, 1) := by decide +kernel
theorem dX10_overrule_20 : decode cX10_overrule 20 = .ok (.iastore, 1) := by decide +kernel
theorem dX10_overrule_21 : decode cX10_overrule 21 = .ok (.iinc 3 1, 3) := by decide +kernel
theorem dX10_overrule_24 : decode cX10_overrule 24 = .ok (.goto (-18), 3) := by decide +kernel
theorem dX10_overrule_27 : decode cX10_overrule 27 = .ok (.return_, 1) := by decide +kernel
theorem dX10_statesMeant_0 : decode cX10_statesMeant 0 = .ok (.aload_n 1, 1) := by decide +kernel
theorem dX10_statesMeant_1 : decode cX10_statesMeant 1 = .ok (.invokevirtual 47, 3) := by decide +kernel
theorem dX10_statesMeant_4 : decode cX10_statesMeant 4 = .ok (.istore_n 2, 1) := by decide +kernel
theorem dX10_statesMeant_5 : decode cX10_statesMeant 5 = .ok (.iconst 0, 1) := by decide +kernel
theorem dX10_statesMeant_6 : decode cX10_statesMeant 6 = .ok (.istore_n 3, 1) := by decide +kernel
theorem dX10_statesMeant_7 : decode cX10_statesMeant 7 = .ok (.iload_n 3, 1) := by decide +kernel
theorem dX10_statesMeant_8 : decode cX10_statesMeant 8 = .ok (.aload_n 0, 1) := by decide +kernel
theorem dX10_statesMeant_9 : decode cX10_statesMeant 9 = .ok (.getfield 27, 3) := by decide +kernel
theorem dX10_statesMeant_12 : decode cX10_statesMeant 12 = .ok (.if_icmp .ge 34, 3) := by decide +kernel
theorem dX10_statesMeant_15 : decode cX10_statesMeant 15 = .ok (.aload_n 0, 1) := by decide +kernel
theorem dX10_statesMeant_16 : decode cX10_statesMeant 16 = .ok (.getfield 9, 3) := by decide +kernel
theorem dX10_statesMeant_19 : decode cX10_statesMeant 19 = .ok (.iload_n 3, 1) := by decide +kernel
theorem dX10_statesMeant_20 : decode cX10_statesMeant 20 = .ok (.iaload, 1) := by decide +kernel
theorem dX10_statesMeant_21 : decode cX10_statesMeant 21 = .ok (.bipush 8, 2) := by decide +kernel
theorem dX10_statesMeant_23 : decode cX10_statesMeant 23 = .ok (.if_icmp .eq 17, 3) := by decide +kernel
theorem dX10_statesMeant_26 : decode cX10_statesMeant 26 = .ok (.iload_n 2, 1) := by decide +kernel
theorem dX10_statesMeant_27 : decode cX10_statesMeant 27 = .ok (.aload_n 1, 1) := by decide +kernel
theorem dX10_statesMeant_28 : decode cX10_statesMeant 28 = .ok (.getfield 79, 3) := by decide +kernel
theorem dX10_statesMeant_31 : decode cX10_statesMeant 31 = .ok (.aload_n 0, 1) := by decide +kernel
theorem dX10_statesMeant_32 : decode cX10_statesMeant 32 = .ok (.getfield 9, 3) := by decide +kernel
theorem dX10_statesMeant_35 : decode cX10_statesMeant 35 = .ok (.iload_n 3, 1) := by decide +kernel
theorem dX10_statesMeant_36 : decode cX10_statesMeant 36 = .ok (.iaload, 1) := by decide +kernel
theorem dX10_statesMeant_37 : decode cX10_statesMeant 37 = .ok (.iaload, 1) := by decide +kernel
theorem dX10_statesMeant_38 : decode cX10_statesMeant 38 = .ok (.iand, 1) := by decide +kernel
theorem dX10_statesMeant_39 : decode cX10_statesMeant 39 = .ok (.istore_n 2, 1) := by decide +kernel
theorem dX10_statesMeant_40 : decode cX10_statesMeant 40 = .ok (.iinc 3 1, 3) := by decide +kernel
theorem dX10_statesMeant_43 : decode cX10_statesMeant 43 = .ok (.goto (-36), 3) := by decide +kernel
theorem dX10_statesMeant_46 : decode cX10_statesMeant 46 = .ok (.iload_n 2, 1) := by decide +kernel
theorem dX10_statesMeant_47 : decode cX10_statesMeant 47 = .ok (.ireturn, 1) := by decide +kernel
theorem dX10_sumLeft_0 : decode cX10_sumLeft 0 = .ok (.iconst 0, 1) := by decide +kernel
theorem dX10_sumLeft_1 : decode cX10_sumLeft 1 = .ok (.istore_n 2, 1) := by decide +kernel
theorem dX10_sumLeft_2 : decode cX10_sumLeft 2 = .ok (.iconst 0, 1) := by decide +kernel
theorem dX10_sumLeft_3 : decode cX10_sumLeft 3 = .ok (.istore_n 3, 1) := by decide +kernel
theorem dX10_sumLeft_4 : decode cX10_sumLeft 4 = .ok (.iload_n 3, 1) := by decide +kernel
theorem dX10_sumLeft_5 : decode cX10_sumLeft 5 = .ok (.aload_n 0, 1) := by decide +kernel
theorem dX10_sumLeft_6 : decode cX10_sumLeft 6 = .ok (.getfield 27, 3) := by decide +kernel
theorem dX10_sumLeft_9 : decode cX10_sumLeft 9 = .ok (.if_icmp .ge 30, 3) := by decide +kernel
theorem dX10_sumLeft_12 : decode cX10_sumLeft 12 = .ok (.iload_n 2, 1) := by decide +kernel
theorem dX10_sumLeft_13 : decode cX10_sumLeft 13 = .ok (.aload_n 1, 1) := by decide +kernel
theorem dX10_sumLeft_14 : decode cX10_sumLeft 14 = .ok (.aload_n 0, 1) := by decide +kernel
theorem dX10_sumLeft_15 : decode cX10_sumLeft 15 = .ok (.getfield 18, 3) := by decide +kernel
theorem dX10_sumLeft_18 : decode cX10_sumLeft 18 = .ok (.iload_n 3, 1) := by decide +kernel
theorem dX10_sumLeft_19 : decode cX10_sumLeft 19 = .ok (.iaload, 1) := by decide +kernel
theorem dX10_sumLeft_20 : decode cX10_sumLeft 20 = .ok (.aload_n 1, 1) := by decide +kernel
theorem dX10_sumLeft_21 : decode cX10_sumLeft 21 = .ok (.getfield 34, 3) := by decide +kernel
theorem dX10_sumLeft_24 : decode cX10_sumLeft 24 = .ok (.iconst 1, 1) := by decide +kernel
theorem dX10_sumLeft_25 : decode cX10_sumLeft 25 = .ok (.isub, 1) := by decide +kernel
theorem dX10_sumLeft_26 : decode cX10_sumLeft 26 = .ok (.iload_n 3, 1) := by decide +kernel
theorem dX10_sumLeft_27 : decode cX10_sumLeft 27 = .ok (.isub, 1) := by decide +kernel
theorem dX10_sumLeft_28 : decode cX10_sumLeft 28 = .ok (.invokevirtual 68, 3) := by decide +kernel
theorem dX10_sumLeft_31 : decode cX10_sumLeft 31 = .ok (.iadd, 1) := by decide +kernel
theorem dX10_sumLeft_32 : decode cX10_sumLeft 32 = .ok (.istore_n 2, 1) := by decide +kernel
theorem dX10_sumLeft_33 : decode cX10_sumLeft 33 = .ok (.iinc 3 1, 3) := by decide +kernel
theorem dX10_sumLeft_36 : decode cX10_sumLeft 36 = .ok (.goto (-32), 3) := by decide +kernel
theorem dX10_sumLeft_39 : decode cX10_sumLeft 39 = .ok (.iload_n 2, 1) := by decide +kernel
theorem dX10_sumLeft_40 : decode cX10_sumLeft 40 = .ok (.ireturn, 1) := by decide +kernel
theorem dX10_sumOfHurts_0 : decode cX10_sumOfHurts 0 = .ok (.iconst 0, 1) := by decide +kernel
theorem dX10_sumOfHurts_1 : decode cX10_sumOfHurts 1 = .ok (.istore_n 1, 1) := by decide +kernel
theorem dX10_sumOfHurts_2 : decode cX10_sumOfHurts 2 = .ok (.iconst 0, 1) := by decide +kernel
theorem dX10_sumOfHurts_3 : decode cX10_sumOfHurts 3 = .ok (.istore_n 2, 1) := by decide +kernel
theorem dX10_sumOfHurts_4 : decode cX10_sumOfHurts 4 = .ok (.iload_n 2, 1) := by decide +kernel
theorem dX10_sumOfHurts_5 : decode cX10_sumOfHurts 5 = .ok (.aload_n 0, 1) := by decide +kernel
theorem dX10_sumOfHurts_6 : decode cX10_sumOfHurts 6 = .ok (.getfield 27, 3) := by decide +kernel
theorem dX10_sumOfHurts_9 : decode cX10_sumOfHurts 9 = .ok (.if_icmp .ge 18, 3) := by decide +kernel
theorem dX10_sumOfHurts_12 : decode cX10_sumOfHurts 12 = .ok (.iload_n 1, 1) := by decide +kernel
theorem dX10_sumOfHurts_13 : decode cX10_sumOfHurts 13 = .ok (.aload_n 0, 1) := by decide +kernel
theorem dX10_sumOfHurts_14 : decode cX10_sumOfHurts 14 = .ok (.getfield 18, 3) := by decide +kernel
theorem dX10_sumOfHurts_17 : decode cX10_sumOfHurts 17 = .ok (.iload_n 2, 1) := by decide +kernel
theorem dX10_sumOfHurts_18 : decode cX10_sumOfHurts 18 = .ok (.iaload, 1) := by decide +kernel
theorem dX10_sumOfHurts_19 : decode cX10_sumOfHurts 19 = .ok (.iadd, 1) := by decide +kernel
theorem dX10_sumOfHurts_20 : decode cX10_sumOfHurts 20 = .ok (.istore_n 1, 1) := by decide +kernel
theorem dX10_sumOfHurts_21 : decode cX10_sumOfHurts 21 = .ok (.iinc 2 1, 3) := by decide +kernel
theorem dX10_sumOfHurts_24 : decode cX10_sumOfHurts 24 = .ok (.goto (-20), 3) := by decide +kernel
theorem dX10_sumOfHurts_27 : decode cX10_sumOfHurts 27 = .ok (.iload_n 1, 1) := by decide +kernel
theorem dX10_sumOfHurts_28 : decode cX10_sumOfHurts 28 = .ok (.ireturn, 1) := by decide +kernel
theorem dX10_sumOfShame_0 : decode cX10_sumOfShame 0 = .ok (.iconst 0, 1) := by decide +kernel
theorem dX10_sumOfShame_1 : decode cX10_sumOfShame 1 = .ok (.istore_n 2, 1) := by decide +kernel
theorem dX10_sumOfShame_2 : decode cX10_sumOfShame 2 = .ok (.iconst 0, 1) := by decide +kernel
theorem dX10_sumOfShame_3 : decode cX10_sumOfShame 3 = .ok (.istore_n 3, 1) := by decide +kernel
theorem dX10_sumOfShame_4 : decode cX10_sumOfShame 4 = .ok (.iload_n 3, 1) := by decide +kernel
theorem dX10_sumOfShame_5 : decode cX10_sumOfShame 5 = .ok (.aload_n 0, 1) := by decide +kernel
theorem dX10_sumOfShame_6 : decode cX10_sumOfShame 6 = .ok (.getfield 27, 3) := by decide +kernel
theorem dX10_sumOfShame_9 : decode cX10_sumOfShame 9 = .ok (.if_icmp .ge 22, 3) := by decide +kernel
theorem dX10_sumOfShame_12 : decode cX10_sumOfShame 12 = .ok (.iload_n 2, 1) := by decide +kernel
theorem dX10_sumOfShame_13 : decode cX10_sumOfShame 13 = .ok (.aload_n 1, 1) := by decide +kernel
theorem dX10_sumOfShame_14 : decode cX10_sumOfShame 14 = .ok (.aload_n 0, 1) := by decide +kernel
theorem dX10_sumOfShame_15 : decode cX10_sumOfShame 15 = .ok (.getfield 9, 3) := by decide +kernel
theorem dX10_sumOfShame_18 : decode cX10_sumOfShame 18 = .ok (.iload_n 3, 1) := by decide +kernel
theorem dX10_sumOfShame_19 : decode cX10_sumOfShame 19 = .ok (.iaload, 1) := by decide +kernel
theorem dX10_sumOfShame_20 : decode cX10_sumOfShame 20 = .ok (.invokevirtual 75, 3) := by decide +kernel
theorem dX10_sumOfShame_23 : decode cX10_sumOfShame 23 = .ok (.iadd, 1) := by decide +kernel
theorem dX10_sumOfShame_24 : decode cX10_sumOfShame 24 = .ok (.istore_n 2, 1) := by decide +kernel
theorem dX10_sumOfShame_25 : decode cX10_sumOfShame 25 = .ok (.iinc 3 1, 3) := by decide +kernel
theorem dX10_sumOfShame_28 : decode cX10_sumOfShame 28 = .ok (.goto (-24), 3) := by decide +kernel
theorem dX10_sumOfShame_31 : decode cX10_sumOfShame 31 = .ok (.iload_n 2, 1) := by decide +kernel
theorem dX10_sumOfShame_32 : decode cX10_sumOfShame 32 = .ok (.ireturn, 1) := by decide +kernel
theorem dX10_swap_0 : decode cX10_swap 0 = .ok (.aload_n 0, 1) := by decide +kernel
theorem dX10_swap_1 : decode cX10_swap 1 = .ok (.getfield 21, 3) := by decide +kernel
theorem dX10_swap_4 : decode cX10_swap 4 = .ok (.iload_n 1, 1) := by decide +kernel
theorem dX10_swap_5 : decode cX10_swap 5 = .ok (.iaload, 1) := by decide +kernel
theorem dX10_swap_6 : decode cX10_swap 6 = .ok (.istore_n 3, 1) := by decide +kernel
theorem dX10_swap_7 : decode cX10_swap 7 = .ok (.aload_n 0, 1) := by decide +kernel
theorem dX10_swap_8 : decode cX10_swap 8 = .ok (.getfield 21, 3) := by decide +kernel
theorem dX10_swap_11 : decode cX10_swap 11 = .ok (.iload_n 1, 1) := by decide +kernel
theorem dX10_swap_12 : decode cX10_swap 12 = .ok (.aload_n 0, 1) := by decide +kernel
theorem dX10_swap_13 : decode cX10_swap 13 = .ok (.getfield 21, 3) := by decide +kernel
theorem dX10_swap_16 : decode cX10_swap 16 = .ok (.iload_n 2, 1) := by decide +kernel
theorem dX10_swap_17 : decode cX10_swap 17 = .ok (.iaload, 1) := by decide +kernel
theorem dX10_swap_18 : decode cX10_swap 18 = .ok (.iastore, 1) := by decide +kernel
theorem dX10_swap_19 : decode cX10_swap 19 = .ok (.aload_n 0, 1) := by decide +kernel
theorem dX10_swap_20 : decode cX10_swap 20 = .ok (.getfield 21, 3) := by decide +kernel
theorem dX10_swap_23 : decode cX10_swap 23 = .ok (.iload_n 2, 1) := by decide +kernel
theorem dX10_swap_24 : decode cX10_swap 24 = .ok (.iload_n 3, 1) := by decide +kernel
theorem dX10_swap_25 : decode cX10_swap 25 = .ok (.iastore, 1) := by decide +kernel
theorem dX10_swap_26 : decode cX10_swap 26 = .ok (.return_, 1) := by decide +kernel
theorem dX2_leftByRow_0 : decode cX2_leftByRow 0 = .ok (.aload_n 0, 1) := by decide +kernel
theorem dX2_leftByRow_1 : decode cX2_leftByRow 1 = .ok (.getfield 18, 3) := by decide +kernel
theorem dX2_leftByRow_4 : decode cX2_leftByRow 4 = .ok (.iconst 0, 1) := by decide +kernel
theorem dX2_leftByRow_5 : decode cX2_leftByRow 5 = .ok (.invokestatic 33, 3) := by decide +kernel
theorem dX2_leftByRow_8 : decode cX2_leftByRow 8 = .ok (.iconst 0, 1) := by decide +kernel
theorem dX2_leftByRow_9 : decode cX2_leftByRow 9 = .ok (.istore_n 3, 1) := by decide +kernel
theorem dX2_leftByRow_10 : decode cX2_leftByRow 10 = .ok (.iload_n 3, 1) := by decide +kernel
theorem dX2_leftByRow_11 : decode cX2_leftByRow 11 = .ok (.aload_n 1, 1) := by decide +kernel
theorem dX2_leftByRow_12 : decode cX2_leftByRow 12 = .ok (.getfield 53, 3) := by decide +kernel
theorem dX2_leftByRow_15 : decode cX2_leftByRow 15 = .ok (.if_icmp .ge 29, 3) := by decide +kernel
theorem dX2_leftByRow_18 : decode cX2_leftByRow 18 = .ok (.aload_n 0, 1) := by decide +kernel
theorem dX2_leftByRow_19 : decode cX2_leftByRow 19 = .ok (.getfield 18, 3) := by decide +kernel
theorem dX2_leftByRow_22 : decode cX2_leftByRow 22 = .ok (.aload_n 0, 1) := by decide +kernel
theorem dX2_leftByRow_23 : decode cX2_leftByRow 23 = .ok (.getfield 9, 3) := by decide +kernel
theorem dX2_leftByRow_26 : decode cX2_leftByRow 26 = .ok (.iload_n 3, 1) := by decide +kernel
theorem dX2_leftByRow_27 : decode cX2_leftByRow 27 = .ok (.iaload, 1) := by decide +kernel
theorem dX2_leftByRow_28 : decode cX2_leftByRow 28 = .ok (.dup2, 1) := by decide +kernel
theorem dX2_leftByRow_29 : decode cX2_leftByRow 29 = .ok (.iaload, 1) := by decide +kernel
theorem dX2_leftByRow_30 : decode cX2_leftByRow 30 = .ok (.aload_n 1, 1) := by decide +kernel
theorem dX2_leftByRow_31 : decode cX2_leftByRow 31 = .ok (.getfield 60, 3) := by decide +kernel
theorem dX2_leftByRow_34 : decode cX2_leftByRow 34 = .ok (.iload_n 3, 1) := by decide +kernel
theorem dX2_leftByRow_35 : decode cX2_leftByRow 35 = .ok (.iaload, 1) := by decide +kernel
theorem dX2_leftByRow_36 : decode cX2_leftByRow 36 = .ok (.isub, 1) := by decide +kernel
theorem dX2_leftByRow_37 : decode cX2_leftByRow 37 = .ok (.iastore, 1) := by decide +kernel
theorem dX2_leftByRow_38 : decode cX2_leftByRow 38 = .ok (.iinc 3 1, 3) := by decide +kernel
theorem dX2_leftByRow_41 : decode cX2_leftByRow 41 = .ok (.goto (-31), 3) := by decide +kernel
theorem dX2_leftByRow_44 : decode cX2_leftByRow 44 = .ok (.iconst 0, 1) := by decide +kernel
theorem dX2_leftByRow_45 : decode cX2_leftByRow 45 = .ok (.istore_n 3, 1) := by decide +kernel
theorem dX2_leftByRow_46 : decode cX2_leftByRow 46 = .ok (.iconst 0, 1) := by decide +kernel
theorem dX2_leftByRow_47 : decode cX2_leftByRow 47 = .ok (.istore 4, 2) := by decide +kernel
theorem dX2_leftByRow_49 : decode cX2_leftByRow 49 = .ok (.iload 4, 2) := by decide +kernel
theorem dX2_leftByRow_51 : decode cX2_leftByRow 51 = .ok (.iload_n 2, 1) := by decide +kernel
theorem dX2_leftByRow_52 : decode cX2_leftByRow 52 = .ok (.if_icmp .ge 43, 3) := by decide +kernel
theorem dX2_leftByRow_55 : decode cX2_leftByRow 55 = .ok (.iconst 0, 1) := by decide +kernel
theorem dX2_leftByRow_56 : decode cX2_leftByRow 56 = .ok (.aload_n 0, 1) := by decide +kernel
theorem dX2_leftByRow_57 : decode cX2_leftByRow 57 = .ok (.getfield 18, 3) := by decide +kernel
theorem dX2_leftByRow_60 : decode cX2_leftByRow 60 = .ok (.iload 4, 2) := by decide +kernel
theorem dX2_leftByRow_62 : decode cX2_leftByRow 62 = .ok (.iaload, 1) := by decide +kernel
theorem dX2_leftByRow_63 : decode cX2_leftByRow 63 = .ok (.invokestatic 63, 3) := by decide +kernel
theorem dX2_leftByRow_66 : decode cX2_leftByRow 66 = .ok (.istore 5, 2) := by decide +kernel
theorem dX2_leftByRow_68 : decode cX2_leftByRow 68 = .ok (.iload_n 3, 1) := by decide +kernel
theorem dX2_leftByRow_69 : decode cX2_leftByRow 69 = .ok (.aload_n 1, 1) := by decide +kernel
theorem dX2_leftByRow_70 : decode cX2_leftByRow 70 = .ok (.iload 5, 2) := by decide +kernel
theorem dX2_leftByRow_72 : decode cX2_leftByRow 72 = .ok (.iload 5, 2) := by decide +kernel
theorem dX2_leftByRow_74 : decode cX2_leftByRow 74 = .ok (.imul, 1) := by decide +kernel
theorem dX2_leftByRow_75 : decode cX2_leftByRow 75 = .ok (.aload_n 1, 1) := by decide +kernel
theorem dX2_leftByRow_76 : decode cX2_leftByRow 76 = .ok (.getfield 21, 3) := by decide +kernel
theorem dX2_leftByRow_79 : decode cX2_leftByRow 79 = .ok (.iconst 1, 1) := by decide +kernel
theorem dX2_leftByRow_80 : decode cX2_leftByRow 80 = .ok (.isub, 1) := by decide +kernel
theorem dX2_leftByRow_81 : decode cX2_leftByRow 81 = .ok (.iload 4, 2) := by decide +kernel
theorem dX2_leftByRow_83 : decode cX2_leftByRow 83 = .ok (.isub, 1) := by decide +kernel
theorem dX2_leftByRow_84 : decode cX2_leftByRow 84 = .ok (.invokevirtual 66, 3) := by decide +kernel
theorem dX2_leftByRow_87 : decode cX2_leftByRow 87 = .ok (.iadd, 1) := by decide +kernel
theorem dX2_leftByRow_88 : decode cX2_leftByRow 88 = .ok (.istore_n 3, 1) := by decide +kernel
theorem dX2_leftByRow_89 : decode cX2_leftByRow 89 = .ok (.iinc 4 1, 3) := by decide +kernel
theorem dX2_leftByRow_92 : decode cX2_leftByRow 92 = .ok (.goto (-43), 3) := by decide +kernel
theorem dX2_leftByRow_95 : decode cX2_leftByRow 95 = .ok (.iload_n 3, 1) := by decide +kernel
theorem dX2_leftByRow_96 : decode cX2_leftByRow 96 = .ok (.ireturn, 1) := by decide +kernel
theorem dX2_nextRow_0 : decode cX2_nextRow 0 = .ok (.iload_n 1, 1) := by decide +kernel
theorem dX2_nextRow_1 : decode cX2_nextRow 1 = .ok (.iconst 1, 1) := by decide +kernel
theorem dX2_nextRow_2 : decode cX2_nextRow 2 = .ok (.isub, 1) := by decide +kernel
theorem dX2_nextRow_3 : decode cX2_nextRow 3 = .ok (.istore_n 3, 1) := by decide +kernel
theorem dX2_nextRow_4 : decode cX2_nextRow 4 = .ok (.iload_n 3, 1) := by decide +kernel
theorem dX2_nextRow_5 : decode cX2_nextRow 5 = .ok (.ifCond .lt 40, 3) := by decide +kernel
theorem dX2_nextRow_8 : decode cX2_nextRow 8 = .ok (.aload_n 0, 1) := by decide +kernel
theorem dX2_nextRow_9 : decode cX2_nextRow 9 = .ok (.getfield 9, 3) := by decide +kernel
theorem dX2_nextRow_12 : decode cX2_nextRow 12 = .ok (.iload_n 3, 1) := by decide +kernel
theorem dX2_nextRow_13 : decode cX2_nextRow 13 = .ok (.iaload, 1) := by decide +kernel
theorem dX2_nextRow_14 : decode cX2_nextRow 14 = .ok (.iload_n 2, 1) := by decide +kernel
theorem dX2_nextRow_15 : decode cX2_nextRow 15 = .ok (.iconst 1, 1) := by decide +kernel
theorem dX2_nextRow_16 : decode cX2_nextRow 16 = .ok (.isub, 1) := by decide +kernel
theorem dX2_nextRow_17 : decode cX2_nextRow 17 = .ok (.if_icmp .ge 15, 3) := by decide +kernel
theorem dX2_nextRow_20 : decode cX2_nextRow 20 = .ok (.aload_n 0, 1) := by decide +kernel
theorem dX2_nextRow_21 : decode cX2_nextRow 21 = .ok (.getfield 9, 3) := by decide +kernel
theorem dX2_nextRow_24 : decode cX2_nextRow 24 = .ok (.iload_n 3, 1) := by decide +kernel
theorem dX2_nextRow_25 : decode cX2_nextRow 25 = .ok (.dup2, 1) := by decide +kernel
theorem dX2_nextRow_26 : decode cX2_nextRow 26 = .ok (.iaload, 1) := by decide +kernel
theorem dX2_nextRow_27 : decode cX2_nextRow 27 = .ok (.iconst 1, 1) := by decide +kernel
theorem dX2_nextRow_28 : decode cX2_nextRow 28 = .ok (.iadd, 1) := by decide +kernel
theorem dX2_nextRow_29 : decode cX2_nextRow 29 = .ok (.iastore, 1) := by decide +kernel
theorem dX2_nextRow_30 : decode cX2_nextRow 30 = .ok (.iconst 1, 1) := by decide +kernel
theorem dX2_nextRow_31 : decode cX2_nextRow 31 = .ok (.ireturn, 1) := by decide +kernel
theorem dX2_nextRow_32 : decode cX2_nextRow 32 = .ok (.aload_n 0, 1) := by decide +kernel
theorem dX2_nextRow_33 : decode cX2_nextRow 33 = .ok (.getfield 9, 3) := by decide +kernel
theorem dX2_nextRow_36 : decode cX2_nextRow 36 = .ok (.iload_n 3, 1) := by decide +kernel
theorem dX2_nextRow_37 : decode cX2_nextRow 37 = .ok (.iconst 0, 1) := by decide +kernel
theorem dX2_nextRow_38 : decode cX2_nextRow 38 = .ok (.iastore, 1) := by decide +kernel
theorem dX2_nextRow_39 : decode cX2_nextRow 39 = .ok (.iinc 3 (-1), 3) := by decide +kernel
theorem dX2_nextRow_42 : decode cX2_nextRow 42 = .ok (.goto (-38), 3) := by decide +kernel
theorem dX2_nextRow_45 : decode cX2_nextRow 45 = .ok (.iconst 0, 1) := by decide +kernel
theorem dX2_nextRow_46 : decode cX2_nextRow 46 = .ok (.ireturn, 1) := by decide +kernel
theorem dX2_share_0 : decode cX2_share 0 = .ok (.iload_n 2, 1) := by decide +kernel
theorem dX2_share_1 : decode cX2_share 1 = .ok (.aload_n 1, 1) := by decide +kernel
theorem dX2_share_2 : decode cX2_share 2 = .ok (.getfield 21, 3) := by decide +kernel
theorem dX2_share_5 : decode cX2_share 5 = .ok (.invokestatic 27, 3) := by decide +kernel
theorem dX2_share_8 : decode cX2_share 8 = .ok (.iconst 4, 1) := by decide +kernel
theorem dX2_share_9 : decode cX2_share 9 = .ok (.invokestatic 27, 3) := by decide +kernel
theorem dX2_share_12 : decode cX2_share 12 = .ok (.istore_n 3, 1) := by decide +kernel
theorem dX2_share_13 : decode cX2_share 13 = .ok (.aload_n 0, 1) := by decide +kernel
theorem dX2_share_14 : decode cX2_share 14 = .ok (.getfield 9, 3) := by decide +kernel
theorem dX2_share_17 : decode cX2_share 17 = .ok (.iconst 0, 1) := by decide +kernel
theorem dX2_share_18 : decode cX2_share 18 = .ok (.invokestatic 33, 3) := by decide +kernel
theorem dX2_share_21 : decode cX2_share 21 = .ok (.aload_n 0, 1) := by decide +kernel
theorem dX2_share_22 : decode cX2_share 22 = .ok (.ldc 39, 2) := by decide +kernel
theorem dX2_share_24 : decode cX2_share 24 = .ok (.putfield 40, 3) := by decide +kernel
theorem dX2_share_27 : decode cX2_share 27 = .ok (.iconst 1, 1) := by decide +kernel
theorem dX2_share_28 : decode cX2_share 28 = .ok (.istore 4, 2) := by decide +kernel
theorem dX2_share_30 : decode cX2_share 30 = .ok (.iconst 0, 1) := by decide +kernel
theorem dX2_share_31 : decode cX2_share 31 = .ok (.istore 5, 2) := by decide +kernel
theorem dX2_share_33 : decode cX2_share 33 = .ok (.iload 5, 2) := by decide +kernel
theorem dX2_share_35 : decode cX2_share 35 = .ok (.sipush 4096, 3) := by decide +kernel
theorem dX2_share_38 : decode cX2_share 38 = .ok (.if_icmp .ge 63, 3) := by decide +kernel
theorem dX2_share_41 : decode cX2_share 41 = .ok (.iload 4, 2) := by decide +kernel
theorem dX2_share_43 : decode cX2_share 43 = .ok (.ifCond .eq 58, 3) := by decide +kernel
theorem dX2_share_46 : decode cX2_share 46 = .ok (.aload_n 0, 1) := by decide +kernel
theorem dX2_share_47 : decode cX2_share 47 = .ok (.aload_n 1, 1) := by decide +kernel
theorem dX2_share_48 : decode cX2_share 48 = .ok (.iload_n 3, 1) := by decide +kernel
theorem dX2_share_49 : decode cX2_share 49 = .ok (.invokevirtual 43, 3) := by decide +kernel
theorem dX2_share_52 : decode cX2_share 52 = .ok (.istore 6, 2) := by decide +kernel
theorem dX2_share_54 : decode cX2_share 54 = .ok (.iload 6, 2) := by decide +kernel
theorem dX2_share_56 : decode cX2_share 56 = .ok (.aload_n 0, 1) := by decide +kernel
theorem dX2_share_57 : decode cX2_share 57 = .ok (.getfield 40, 3) := by decide +kernel
theorem dX2_share_60 : decode cX2_share 60 = .ok (.if_icmp .ge 24, 3) := by decide +kernel
theorem dX2_share_63 : decode cX2_share 63 = .ok (.aload_n 0, 1) := by decide +kernel
theorem dX2_share_64 : decode cX2_share 64 = .ok (.iload 6, 2) := by decide +kernel
theorem dX2_share_66 : decode cX2_share 66 = .ok (.putfield 40, 3) := by decide +kernel
theorem dX2_share_69 : decode cX2_share 69 = .ok (.aload_n 0, 1) := by decide +kernel
theorem dX2_share_70 : decode cX2_share 70 = .ok (.getfield 9, 3) := by decide +kernel
theorem dX2_share_73 : decode cX2_share 73 = .ok (.iconst 0, 1) := by decide +kernel
theorem dX2_share_74 : decode cX2_share 74 = .ok (.aload_n 0, 1) := by decide +kernel
theorem dX2_share_75 : decode cX2_share 75 = .ok (.getfield 15, 3) := by decide +kernel
theorem dX2_share_78 : decode cX2_share 78 = .ok (.iconst 0, 1) := by decide +kernel
theorem dX2_share_79 : decode cX2_share 79 = .ok (.bipush 6, 2) := by decide +kernel
theorem dX2_share_81 : decode cX2_share 81 = .ok (.invokestatic 47, 3) := by decide +kernel
theorem dX2_share_84 : decode cX2_share 84 = .ok (.aload_n 0, 1) := by decide +kernel
theorem dX2_share_85 : decode cX2_share 85 = .ok (.aload_n 1, 1) := by decide +kernel
theorem dX2_share_86 : decode cX2_share 86 = .ok (.getfield 53, 3) := by decide +kernel
theorem dX2_share_89 : decode cX2_share 89 = .ok (.iload_n 3, 1) := by decide +kernel
theorem dX2_share_90 : decode cX2_share 90 = .ok (.invokevirtual 56, 3) := by decide +kernel
theorem dX2_share_93 : decode cX2_share 93 = .ok (.istore 4, 2) := by decide +kernel
theorem dX2_share_95 : decode cX2_share 95 = .ok (.iinc 5 1, 3) := by decide +kernel
theorem dX2_share_98 : decode cX2_share 98 = .ok (.goto (-65), 3) := by decide +kernel
theorem dX2_share_101 : decode cX2_share 101 = .ok (.return_, 1) := by decide +kernel
